theorem dX10_told_50 : decode cX10_told 50 = .ok (.aload_n 2, 1) := by decide +kernel
theorem dX10_told_51 : decode cX10_told 51 = .ok (.getfield 120, 3) := by decide +kernel
theorem dX10_told_54 : decode cX10_told 54 = .ok (.ireturn, 1) := by decide +kernel
theorem dX10_told_55 : decode cX10_told 55 = .ok (.aload_n 2, 1) := by decide +kernel
theorem dX10_told_56 : decode cX10_told 56 = .ok (.getfield 123, 3) := by decide +kernel
theorem dX10_told_59 : decode cX10_told 59 = .ok (.ireturn, 1) := by decide +kernel
theorem dX10_told_60 : decode cX10_told 60 = .ok (.iload_n 1, 1) := by decide +kernel
theorem dX10_told_61 : decode cX10_told 61 = .ok (.bipush 10, 2) := by decide +kernel
theorem dX10_told_63 : decode cX10_told 63 = .ok (.idiv, 1) := by decide +kernel
theorem dX10_told_64 : decode cX10_told 64 = .ok (.istore_n 3, 1) := by decide +kernel
theorem dX10_told_65 : decode cX10_told 65 = .ok (.iload_n 1, 1) := by decide +kernel
theorem dX10_told_66 : decode cX10_told 66 = .ok (.bipush 10, 2) := by decide +kernel
theorem dX10_told_68 : decode cX10_told 68 = .ok (.irem, 1) := by decide +kernel
theorem dX10_told_69 : decode cX10_told 69 = .ok (.istore 4, 2) := by decide +kernel
theorem dX10_told_71 : decode cX10_told 71 = .ok (.iload 4, 2) := by decide +kernel
theorem dX10_told_73 : decode cX10_told 73 = .ok (.ifCond .ge 5, 3) := by decide +kernel
theorem dX10_told_76 : decode cX10_told 76 = .ok (.iconst (-1), 1) := by decide +kernel
theorem dX10_told_77 : decode cX10_told 77 = .ok (.ireturn, 1) := by decide +kernel
theorem dX10_told_78 : decode cX10_told 78 = .ok (.iload_n 3, 1) := by decide +kernel
theorem dX10_told_79 : decode cX10_told 79 = .ok (.iconst 1, 1) := by decide +kernel
theorem dX10_told_80 : decode cX10_told 80 = .ok (.if_icmp .ne 22, 3) := by decide +kernel
theorem dX10_told_83 : decode cX10_told 83 = .ok (.iload 4, 2) := by decide +kernel
theorem dX10_told_85 : decode cX10_told 85 = .ok (.bipush 7, 2) := by decide +kernel
theorem dX10_told_87 : decode cX10_told 87 = .ok (.if_icmp .ge 13, 3) := by decide +kernel
theorem dX10_told_90 : decode cX10_told 90 = .ok (.aload_n 2, 1) := by decide +kernel
theorem dX10_told_91 : decode cX10_told 91 = .ok (.getfield 126, 3) := by decide +kernel
theorem dX10_told_94 : decode cX10_told 94 = .ok (.iload 4, 2) := by decide +kernel
theorem dX10_told_96 : decode cX10_told 96 = .ok (.iaload, 1) := by decide +kernel
theorem dX10_told_97 : decode cX10_told 97 = .ok (.goto 4, 3) := by decide +kernel
theorem dX10_told_100 : decode cX10_told 100 = .ok (.iconst (-1), 1) := by decide +kernel
theorem dX10_told_101 : decode cX10_told 101 = .ok (.ireturn, 1) := by decide +kernel
theorem dX10_told_102 : decode cX10_told 102 = .ok (.iload_n 3, 1) := by decide +kernel
theorem dX10_told_103 : decode cX10_told 103 = .ok (.bipush 6, 2) := by decide +kernel
theorem dX10_told_105 : decode cX10_told 105 = .ok (.if_icmp .eq 9, 3) := by decide +kernel
theorem dX10_told_108 : decode cX10_told 108 = .ok (.iload_n 3, 1) := by decide +kernel
theorem dX10_told_109 : decode cX10_told 109 = .ok (.bipush 7, 2) := by decide +kernel
theorem dX10_told_111 : decode cX10_told 111 = .ok (.if_icmp .ne 40, 3) := by decide +kernel
theorem dX10_told_114 : decode cX10_told 114 = .ok (.iload 4, 2) := by decide +kernel
theorem dX10_told_116 : decode cX10_told 116 = .ok (.aload_n 2, 1) := by decide +kernel
theorem dX10_told_117 : decode cX10_told 117 = .ok (.getfield 117, 3) := by decide +kernel
theorem dX10_told_120 : decode cX10_told 120 = .ok (.if_icmp .ge 29, 3) := by decide +kernel
theorem dX10_told_123 : decode cX10_told 123 = .ok (.iload_n 3, 1) := by decide +kernel
theorem dX10_told_124 : decode cX10_told 124 = .ok (.bipush 6, 2) := by decide +kernel
theorem dX10_told_126 : decode cX10_told 126 = .ok (.if_icmp .ne 13, 3) := by decide +kernel
theorem dX10_told_129 : decode cX10_told 129 = .ok (.aload_n 2, 1) := by decide +kernel
theorem dX10_told_130 : decode cX10_told 130 = .ok (.getfield 130, 3) := by decide +kernel
theorem dX10_told_133 : decode cX10_told 133 = .ok (.iload 4, 2) := by decide +kernel
theorem dX10_told_135 : decode cX10_told 135 = .ok (.iaload, 1) := by decide +kernel
theorem dX10_told_136 : decode cX10_told 136 = .ok (.goto 14, 3) := by decide +kernel
theorem dX10_told_139 : decode cX10_told 139 = .ok (.aload_n 2, 1) := by decide +kernel
theorem dX10_told_140 : decode cX10_told 140 = .ok (.getfield 133, 3) := by decide +kernel
theorem dX10_told_143 : decode cX10_told 143 = .ok (.iload 4, 2) := by decide +kernel
theorem dX10_told_145 : decode cX10_told 145 = .ok (.iaload, 1) := by decide +kernel
theorem dX10_told_146 : decode cX10_told 146 = .ok (.goto 4, 3) := by decide +kernel
theorem dX10_told_149 : decode cX10_told 149 = .ok (.iconst (-1), 1) := by decide +kernel
theorem dX10_told_150 : decode cX10_told 150 = .ok (.ireturn, 1) := by decide +kernel
theorem dX10_told_151 : decode cX10_told 151 = .ok (.iload 4, 2) := by decide +kernel
theorem dX10_told_153 : decode cX10_told 153 = .ok (.aload_n 2, 1) := by decide +kernel
theorem dX10_told_154 : decode cX10_told 154 = .ok (.getfield 114, 3) := by decide +kernel
theorem dX10_told_157 : decode cX10_told 157 = .ok (.if_icmp .ge 13, 3) := by decide +kernel
theorem dX10_told_160 : decode cX10_told 160 = .ok (.aload_n 2, 1) := by decide +kernel
theorem dX10_told_161 : decode cX10_told 161 = .ok (.iload_n 3, 1) := by decide +kernel
theorem dX10_told_162 : decode cX10_told 162 = .ok (.iload 4, 2) := by decide +kernel
theorem dX10_told_164 : decode cX10_told 164 = .ok (.invokestatic 136, 3) := by decide +kernel
theorem dX10_told_167 : decode cX10_told 167 = .ok (.goto 4, 3) := by decide +kernel
theorem dX10_told_170 : decode cX10_told 170 = .ok (.iconst (-1), 1) := by decide +kernel
theorem dX10_told_171 : decode cX10_told 171 = .ok (.ireturn, 1) := by decide +kernel
theorem dX10_toldOfSort_0 : decode cX10_toldOfSort 0 = .ok (.iload_n 1, 1) := by decide +kernel
theorem dX10_toldOfSort_1 : decode cX10_toldOfSort 1 = .ok (.tableswitch 59 2 5 #[31, 38, 45, 52], 31) := by decide +kernel
theorem dX10_toldOfSort_32 : decode cX10_toldOfSort 32 = .ok (.aload_n 0, 1) := by decide +kernel
theorem dX10_toldOfSort_33 : decode cX10_toldOfSort 33 = .ok (.getfield 140, 3) := by decide +kernel
theorem dX10_toldOfSort_36 : decode cX10_toldOfSort 36 = .ok (.iload_n 2, 1) := by decide +kernel
theorem dX10_toldOfSort_37 : decode cX10_toldOfSort 37 = .ok (.iaload, 1) := by decide +kernel
theorem dX10_toldOfSort_38 : decode cX10_toldOfSort 38 = .ok (.ireturn, 1) := by decide +kernel
theorem dX10_toldOfSort_39 : decode cX10_toldOfSort 39 = .ok (.aload_n 0, 1) := by decide +kernel
theorem dX10_toldOfSort_40 : decode cX10_toldOfSort 40 = .ok (.getfield 143, 3) := by decide +kernel
theorem dX10_toldOfSort_43 : decode cX10_toldOfSort 43 = .ok (.iload_n 2, 1) := by decide +kernel
theorem dX10_toldOfSort_44 : decode cX10_toldOfSort 44 = .ok (.iaload, 1) := by decide +kernel
theorem dX10_toldOfSort_45 : decode cX10_toldOfSort 45 = .ok (.ireturn, 1) := by decide +kernel
theorem dX10_toldOfSort_46 : decode cX10_toldOfSort 46 = .ok (.aload_n 0, 1) := by decide +kernel
theorem dX10_toldOfSort_47 : decode cX10_toldOfSort 47 = .ok (.getfield 146, 3) := by decide +kernel
theorem dX10_toldOfSort_50 : decode cX10_toldOfSort 50 = .ok (.iload_n 2, 1) := by decide +kernel
theorem dX10_toldOfSort_51 : decode cX10_toldOfSort 51 = .ok (.iaload, 1) := by decide +kernel
theorem dX10_toldOfSort_52 : decode cX10_toldOfSort 52 = .ok (.ireturn, 1) := by decide +kernel
theorem dX10_toldOfSort_53 : decode cX10_toldOfSort 53 = .ok (.aload_n 0, 1) := by decide +kernel
theorem dX10_toldOfSort_54 : decode cX10_toldOfSort 54 = .ok (.getfield 149, 3) := by decide +kernel
theorem dX10_toldOfSort_57 : decode cX10_toldOfSort 57 = .ok (.iload_n 2, 1) := by decide +kernel
theorem dX10_toldOfSort_58 : decode cX10_toldOfSort 58 = .ok (.iaload, 1) := by decide +kernel
theorem dX10_toldOfSort_59 : decode cX10_toldOfSort 59 = .ok (.ireturn, 1) := by decide +kernel
theorem dX10_toldOfSort_60 : decode cX10_toldOfSort 60 = .ok (.iconst (-1), 1) := by decide +kernel
theorem dX10_toldOfSort_61 : decode cX10_toldOfSort 61 = .ok (.ireturn, 1) := by decide +kernel
theorem dX10_earns_0 : decode cX10_earns 0 = .ok (.aload_n 0, 1) := by decide +kernel
theorem dX10_earns_1 : decode cX10_earns 1 = .ok (.iload_n 1, 1) := by decide +kernel
theorem dX10_earns_2 : decode cX10_earns 2 = .ok (.invokevirtual 152, 3) := by decide +kernel
theorem dX10_earns_5 : decode cX10_earns 5 = .ok (.ifCond .eq 30, 3) := by decide +kernel
theorem dX10_earns_8 : decode cX10_earns 8 = .ok (.iload_n 2, 1) := by decide +kernel
theorem dX10_earns_9 : decode cX10_earns 9 = .ok (.invokestatic 156, 3) := by decide +kernel
theorem dX10_earns_12 : decode cX10_earns 12 = .ok (.ifCond .eq 23, 3) := by decide +kernel
theorem dX10_earns_15 : decode cX10_earns 15 = .ok (.aload_n 0, 1) := by decide +kernel
theorem dX10_earns_16 : decode cX10_earns 16 = .ok (.getfield 33, 3) := by decide +kernel
theorem dX10_earns_19 : decode cX10_earns 19 = .ok (.getfield 102, 3) := by decide +kernel
theorem dX10_earns_22 : decode cX10_earns 22 = .ok (.getfield 159, 3) := by decide +kernel
theorem dX10_earns_25 : decode cX10_earns 25 = .ok (.iload_n 1, 1) := by decide +kernel
theorem dX10_earns_26 : decode cX10_earns 26 = .ok (.bipush 7, 2) := by decide +kernel
theorem dX10_earns_28 : decode cX10_earns 28 = .ok (.imul, 1) := by decide +kernel
theorem dX10_earns_29 : decode cX10_earns 29 = .ok (.iload_n 2, 1) := by decide +kernel
theorem dX10_earns_30 : decode cX10_earns 30 = .ok (.iadd, 1) := by decide +kernel
theorem dX10_earns_31 : decode cX10_earns 31 = .ok (.iaload, 1) := by decide +kernel
theorem dX10_earns_32 : decode cX10_earns 32 = .ok (.goto 5, 3) := by decide +kernel
theorem dX10_earns_35 : decode cX10_earns 35 = .ok (.bipush (-2), 2) := by decide +kernel
theorem dX10_earns_37 : decode cX10_earns 37 = .ok (.ireturn, 1) := by decide +kernel
theorem dX10_price_0 : decode cX10_price 0 = .ok (.aload_n 0, 1) := by decide +kernel
theorem dX10_price_1 : decode cX10_price 1 = .ok (.iload_n 1, 1) := by decide +kernel
theorem dX10_price_2 : decode cX10_price 2 = .ok (.invokevirtual 162, 3) := by decide +kernel
theorem dX10_price_5 : decode cX10_price 5 = .ok (.ifCond .eq 27, 3) := by decide +kernel
theorem dX10_price_8 : decode cX10_price 8 = .ok (.iload_n 2, 1) := by decide +kernel
theorem dX10_price_9 : decode cX10_price 9 = .ok (.invokestatic 156, 3) := by decide +kernel
theorem dX10_price_12 : decode cX10_price 12 = .ok (.ifCond .eq 20, 3) := by decide +kernel
theorem dX10_price_15 : decode cX10_price 15 = .ok (.aload_n 0, 1) := by decide +kernel
theorem dX10_price_16 : decode cX10_price 16 = .ok (.getfield 33, 3) := by decide +kernel
theorem dX10_price_19 : decode cX10_price 19 = .ok (.getfield 165, 3) := by decide +kernel
theorem dX10_price_22 : decode cX10_price 22 = .ok (.iload_n 1, 1) := by decide +kernel
theorem dX10_price_23 : decode cX10_price 23 = .ok (.bipush 7, 2) := by decide +kernel
theorem dX10_price_25 : decode cX10_price 25 = .ok (.imul, 1) := by decide +kernel
theorem dX10_price_26 : decode cX10_price 26 = .ok (.iload_n 2, 1) := by decide +kernel
theorem dX10_price_27 : decode cX10_price 27 = .ok (.iadd, 1) := by decide +kernel
theorem dX10_price_28 : decode cX10_price 28 = .ok (.iaload, 1) := by decide +kernel
theorem dX10_price_29 : decode cX10_price 29 = .ok (.goto 5, 3) := by decide +kernel
theorem dX10_price_32 : decode cX10_price 32 = .ok (.bipush (-2), 2) := by decide +kernel
theorem dX10_price_34 : decode cX10_price 34 = .ok (.ireturn, 1) := by decide +kernel
theorem dX10_made_0 : decode cX10_made 0 = .ok (.aload_n 0, 1) := by decide +kernel
theorem dX10_made_1 : decode cX10_made 1 = .ok (.iload_n 1, 1) := by decide +kernel
theorem dX10_made_2 : decode cX10_made 2 = .ok (.invokevirtual 162, 3) := by decide +kernel
theorem dX10_made_5 : decode cX10_made 5 = .ok (.ifCond .eq 30, 3) := by decide +kernel
theorem dX10_made_8 : decode cX10_made 8 = .ok (.iload_n 2, 1) := by decide +kernel
theorem dX10_made_9 : decode cX10_made 9 = .ok (.invokestatic 156, 3) := by decide +kernel
theorem dX10_made_12 : decode cX10_made 12 = .ok (.ifCond .eq 23, 3) := by decide +kernel
theorem dX10_made_15 : decode cX10_made 15 = .ok (.aload_n 0, 1) := by decide +kernel
theorem dX10_made_16 : decode cX10_made 16 = .ok (.getfield 33, 3) := by decide +kernel
theorem dX10_made_19 : decode cX10_made 19 = .ok (.getfield 102, 3) := by decide +kernel
theorem dX10_made_22 : decode cX10_made 22 = .ok (.getfield 168, 3) := by decide +kernel
theorem dX10_made_25 : decode cX10_made 25 = .ok (.iload_n 1, 1) := by decide +kernel
theorem dX10_made_26 : decode cX10_made 26 = .ok (.bipush 7, 2) := by decide +kernel
theorem dX10_made_28 : decode cX10_made 28 = .ok (.imul, 1) := by decide +kernel
theorem dX10_made_29 : decode cX10_made 29 = .ok (.iload_n 2, 1) := by decide +kernel
theorem dX10_made_30 : decode cX10_made 30 = .ok (.iadd, 1) := by decide +kernel
theorem dX10_made_31 : decode cX10_made 31 = .ok (.iaload, 1) := by decide +kernel
theorem dX10_made_32 : decode cX10_made 32 = .ok (.goto 5, 3) := by decide +kernel
theorem dX10_made_35 : decode cX10_made 35 = .ok (.bipush (-2), 2) := by decide +kernel
theorem dX10_made_37 : decode cX10_made 37 = .ok (.ireturn, 1) := by decide +kernel
theorem dX10_wants_0 : decode cX10_wants 0 = .ok (.aload_n 0, 1) := by decide +kernel
theorem dX10_wants_1 : decode cX10_wants 1 = .ok (.iload_n 1, 1) := by decide +kernel
theorem dX10_wants_2 : decode cX10_wants 2 = .ok (.invokevirtual 152, 3) := by decide +kernel
theorem dX10_wants_5 : decode cX10_wants 5 = .ok (.ifCond .eq 10, 3) := by decide +kernel
theorem dX10_wants_8 : decode cX10_wants 8 = .ok (.iload_n 2, 1) := by decide +kernel
theorem dX10_wants_9 : decode cX10_wants 9 = .ok (.invokestatic 156, 3) := by decide +kernel
theorem dX10_wants_12 : decode cX10_wants 12 = .ok (.ifCond .ne 6, 3) := by decide +kernel
theorem dX10_wants_15 : decode cX10_wants 15 = .ok (.bipush (-2), 2) := by decide +kernel
theorem dX10_wants_17 : decode cX10_wants 17 = .ok (.ireturn, 1) := by decide +kernel
theorem dX10_wants_18 : decode cX10_wants 18 = .ok (.iload_n 1, 1) := by decide +kernel
theorem dX10_wants_19 : decode cX10_wants 19 = .ok (.bipush 7, 2) := by decide +kernel
theorem dX10_wants_21 : decode cX10_wants 21 = .ok (.imul, 1) := by decide +kernel
theorem dX10_wants_22 : decode cX10_wants 22 = .ok (.iload_n 2, 1) := by decide +kernel
theorem dX10_wants_23 : decode cX10_wants 23 = .ok (.iadd, 1) := by decide +kernel
theorem dX10_wants_24 : decode cX10_wants 24 = .ok (.istore 4, 2) := by decide +kernel
theorem dX10_wants_26 : decode cX10_wants 26 = .ok (.iload_n 3, 1) := by decide +kernel
theorem dX10_wants_27 : decode cX10_wants 27 = .ok (.tableswitch 67 0 2 #[25, 39, 53], 25) := by decide +kernel
theorem dX10_wants_52 : decode cX10_wants 52 = .ok (.aload_n 0, 1) := by decide +kernel
theorem dX10_wants_53 : decode cX10_wants 53 = .ok (.getfield 33, 3) := by decide +kernel
theorem dX10_wants_56 : decode cX10_wants 56 = .ok (.getfield 102, 3) := by decide +kernel
theorem dX10_wants_59 : decode cX10_wants 59 = .ok (.getfield 171, 3) := by decide +kernel
theorem dX10_wants_62 : decode cX10_wants 62 = .ok (.iload 4, 2) := by decide +kernel
theorem dX10_wants_64 : decode cX10_wants 64 = .ok (.iaload, 1) := by decide +kernel
theorem dX10_wants_65 : decode cX10_wants 65 = .ok (.ireturn, 1) := by decide +kernel
theorem dX10_wants_66 : decode cX10_wants 66 = .ok (.aload_n 0, 1) := by decide +kernel
theorem dX10_wants_67 : decode cX10_wants 67 = .ok (.getfield 33, 3) := by decide +kernel
theorem dX10_wants_70 : decode cX10_wants 70 = .ok (.getfield 102, 3) := by decide +kernel
theorem dX10_wants_73 : decode cX10_wants 73 = .ok (.getfield 174, 3) := by decide +kernel
theorem dX10_wants_76 : decode cX10_wants 76 = .ok (.iload 4, 2) := by decide +kernel
theorem dX10_wants_78 : decode cX10_wants 78 = .ok (.iaload, 1) := by decide +kernel
theorem dX10_wants_79 : decode cX10_wants 79 = .ok (.ireturn, 1) := by decide +kernel
theorem dX10_wants_80 : decode cX10_wants 80 = .ok (.aload_n 0, 1) := by decide +kernel
theorem dX10_wants_81 : decode cX10_wants 81 = .ok (.getfield 33, 3) := by decide +kernel
theorem dX10_wants_84 : decode cX10_wants 84 = .ok (.getfield 102, 3) := by decide +kernel
theorem dX10_wants_87 : decode cX10_wants 87 = .ok (.getfield 177, 3) := by decide +kernel
theorem dX10_wants_90 : decode cX10_wants 90 = .ok (.iload 4, 2) := by decide +kernel
theorem dX10_wants_92 : decode cX10_wants 92 = .ok (.iaload, 1) := by decide +kernel
theorem dX10_wants_93 : decode cX10_wants 93 = .ok (.ireturn, 1) := by decide +kernel
theorem dX10_wants_94 : decode cX10_wants 94 = .ok (.bipush (-2), 2) := by decide +kernel
theorem dX10_wants_96 : decode cX10_wants 96 = .ok (.ireturn, 1) := by decide +kernel
theorem dX10_night_0 : decode cX10_night 0 = .ok (.iload_n 1, 1) := by decide +kernel
theorem dX10_night_1 : decode cX10_night 1 = .ok (.iload_n 2, 1) := by decide +kernel
theorem dX10_night_2 : decode cX10_night 2 = .ok (.invokestatic 180, 3) := by decide +kernel
theorem dX10_night_5 : decode cX10_night 5 = .ok (.ifCond .eq 27, 3) := by decide +kernel
theorem dX10_night_8 : decode cX10_night 8 = .ok (.iload_n 3, 1) := by decide +kernel
theorem dX10_night_9 : decode cX10_night 9 = .ok (.invokestatic 156, 3) := by decide +kernel
theorem dX10_night_12 : decode cX10_night 12 = .ok (.ifCond .eq 20, 3) := by decide +kernel
theorem dX10_night_15 : decode cX10_night 15 = .ok (.aload_n 0, 1) := by decide +kernel
theorem dX10_night_16 : decode cX10_night 16 = .ok (.getfield 33, 3) := by decide +kernel
theorem dX10_night_19 : decode cX10_night 19 = .ok (.getfield 102, 3) := by decide +kernel
theorem dX10_night_22 : decode cX10_night 22 = .ok (.getfield 117, 3) := by decide +kernel
theorem dX10_night_25 : decode cX10_night 25 = .ok (.ifCond .ne 10, 3) := by decide +kernel
theorem dX10_night_28 : decode cX10_night 28 = .ok (.iload_n 2, 1) := by decide +kernel
theorem dX10_night_29 : decode cX10_night 29 = .ok (.ifCond .le 6, 3) := by decide +kernel
theorem dX10_night_32 : decode cX10_night 32 = .ok (.bipush (-2), 2) := by decide +kernel
theorem dX10_night_34 : decode cX10_night 34 = .ok (.ireturn, 1) := by decide +kernel
theorem dX10_night_35 : decode cX10_night 35 = .ok (.aload_n 0, 1) := by decide +kernel
theorem dX10_night_36 : decode cX10_night 36 = .ok (.getfield 33, 3) := by decide +kernel
theorem dX10_night_39 : decode cX10_night 39 = .ok (.iload_n 1, 1) := by decide +kernel
theorem dX10_night_40 : decode cX10_night 40 = .ok (.iload_n 2, 1) := by decide +kernel
theorem dX10_night_41 : decode cX10_night 41 = .ok (.iload_n 3, 1) := by decide +kernel
theorem dX10_night_42 : decode cX10_night 42 = .ok (.invokevirtual 184, 3) := by decide +kernel
theorem dX10_night_45 : decode cX10_night 45 = .ok (.ireturn, 1) := by decide +kernel
theorem dX10_may_0 : decode cX10_may 0 = .ok (.aload_n 0, 1) := by decide +kernel
theorem dX10_may_1 : decode cX10_may 1 = .ok (.iload_n 1, 1) := by decide +kernel
theorem dX10_may_2 : decode cX10_may 2 = .ok (.iload_n 2, 1) := by decide +kernel
theorem dX10_may_3 : decode cX10_may 3 = .ok (.iload_n 3, 1) := by decide +kernel
theorem dX10_may_4 : decode cX10_may 4 = .ok (.iload 4, 2) := by decide +kernel
theorem dX10_may_6 : decode cX10_may 6 = .ok (.invokevirtual 188, 3) := by decide +kernel
theorem dX10_may_9 : decode cX10_may 9 = .ok (.ifCond .eq 15, 3) := by decide +kernel
theorem dX10_may_12 : decode cX10_may 12 = .ok (.iload 5, 2) := by decide +kernel
theorem dX10_may_14 : decode cX10_may 14 = .ok (.ifCond .lt 10, 3) := by decide +kernel
theorem dX10_may_17 : decode cX10_may 17 = .ok (.iload 5, 2) := by decide +kernel
theorem dX10_may_19 : decode cX10_may 19 = .ok (.bipush 48, 2) := by decide +kernel
theorem dX10_may_21 : decode cX10_may 21 = .ok (.if_icmp .lt 6, 3) := by decide +kernel
theorem dX10_may_24 : decode cX10_may 24 = .ok (.bipush (-2), 2) := by decide +kernel
theorem dX10_may_26 : decode cX10_may 26 = .ok (.ireturn, 1) := by decide +kernel
theorem dX10_may_27 : decode cX10_may 27 = .ok (.aload_n 0, 1) := by decide +kernel
theorem dX10_may_28 : decode cX10_may 28 = .ok (.getfield 55, 3) := by decide +kernel
theorem dX10_may_31 : decode cX10_may 31 = .ok (.getfield 192, 3) := by decide +kernel
theorem dX10_may_34 : decode cX10_may 34 = .ok (.astore 6, 2) := by decide +kernel
theorem dX10_may_36 : decode cX10_may 36 = .ok (.aload 6, 2) := by decide +kernel
theorem dX10_may_38 : decode cX10_may 38 = .ok (.aload_n 0, 1) := by decide +kernel
theorem dX10_may_39 : decode cX10_may 39 = .ok (.getfield 33, 3) := by decide +kernel
theorem dX10_may_42 : decode cX10_may 42 = .ok (.iload_n 1, 1) := by decide +kernel
theorem dX10_may_43 : decode cX10_may 43 = .ok (.iload_n 2, 1) := by decide +kernel
theorem dX10_may_44 : decode cX10_may 44 = .ok (.invokevirtual 196, 3) := by decide +kernel
theorem dX10_may_47 : decode cX10_may 47 = .ok (.aload 6, 2) := by decide +kernel
theorem dX10_may_49 : decode cX10_may 49 = .ok (.iload_n 3, 1) := by decide +kernel
theorem dX10_may_50 : decode cX10_may 50 = .ok (.iload 4, 2) := by decide +kernel
theorem dX10_may_52 : decode cX10_may 52 = .ok (.iload 5, 2) := by decide +kernel
theorem dX10_may_54 : decode cX10_may 54 = .ok (.invokevirtual 202, 3) := by decide +kernel
theorem dX10_may_57 : decode cX10_may 57 = .ok (.ifCond .eq 7, 3) := by decide +kernel
theorem dX10_may_60 : decode cX10_may 60 = .ok (.iconst 1, 1) := by decide +kernel
theorem dX10_may_61 : decode cX10_may 61 = .ok (.goto 4, 3) := by decide +kernel
theorem dX10_may_64 : decode cX10_may 64 = .ok (.iconst 0, 1) := by decide +kernel
theorem dX10_may_65 : decode cX10_may 65 = .ok (.ireturn, 1) := by decide +kernel
theorem dX10_best_0 : decode cX10_best 0 = .ok (.aload_n 0, 1) := by decide +kernel
theorem dX10_best_1 : decode cX10_best 1 = .ok (.iload_n 1, 1) := by decide +kernel
theorem dX10_best_2 : decode cX10_best 2 = .ok (.iload_n 2, 1) := by decide +kernel
theorem dX10_best_3 : decode cX10_best 3 = .ok (.iload_n 3, 1) := by decide +kernel
theorem dX10_best_4 : decode cX10_best 4 = .ok (.iload 4, 2) := by decide +kernel
theorem dX10_best_6 : decode cX10_best 6 = .ok (.invokevirtual 188, 3) := by decide +kernel
theorem dX10_best_9 : decode cX10_best 9 = .ok (.ifCond .eq 14, 3) := by decide +kernel
theorem dX10_best_12 : decode cX10_best 12 = .ok (.iload 5, 2) := by decide +kernel
theorem dX10_best_14 : decode cX10_best 14 = .ok (.iconst 0, 1) := by decide +kernel
theorem dX10_best_15 : decode cX10_best 15 = .ok (.bipush 28, 2) := by decide +kernel
theorem dX10_best_17 : decode cX10_best 17 = .ok (.invokestatic 206, 3) := by decide +kernel
theorem dX10_best_20 : decode cX10_best 20 = .ok (.ifCond .ne 6, 3) := by decide +kernel
theorem dX10_best_23 : decode cX10_best 23 = .ok (.bipush (-2), 2) := by decide +kernel
theorem dX10_best_25 : decode cX10_best 25 = .ok (.ireturn, 1) := by decide +kernel
theorem dX10_best_26 : decode cX10_best 26 = .ok (.iload 5, 2) := by decide +kernel
theorem dX10_best_28 : decode cX10_best 28 = .ok (.ifCond .ne 5, 3) := by decide +kernel
theorem dX10_best_31 : decode cX10_best 31 = .ok (.iconst 0, 1) := by decide +kernel
theorem dX10_best_32 : decode cX10_best 32 = .ok (.ireturn, 1) := by decide +kernel
theorem dX10_best_33 : decode cX10_best 33 = .ok (.aload_n 0, 1) := by decide +kernel
theorem dX10_best_34 : decode cX10_best 34 = .ok (.getfield 46, 3) := by decide +kernel
theorem dX10_best_37 : decode cX10_best 37 = .ok (.iload_n 1, 1) := by decide +kernel
theorem dX10_best_38 : decode cX10_best 38 = .ok (.iload_n 2, 1) := by decide +kernel
theorem dX10_best_39 : decode cX10_best 39 = .ok (.aload_n 0, 1) := by decide +kernel
theorem dX10_best_40 : decode cX10_best 40 = .ok (.getfield 33, 3) := by decide +kernel
theorem dX10_best_43 : decode cX10_best 43 = .ok (.iload_n 1, 1) := by decide +kernel
theorem dX10_best_44 : decode cX10_best 44 = .ok (.iload_n 2, 1) := by decide +kernel
theorem dX10_best_45 : decode cX10_best 45 = .ok (.iload_n 3, 1) := by decide +kernel
theorem dX10_best_46 : decode cX10_best 46 = .ok (.invokevirtual 209, 3) := by decide +kernel
theorem dX10_best_49 : decode cX10_best 49 = .ok (.iload 4, 2) := by decide +kernel
theorem dX10_best_51 : decode cX10_best 51 = .ok (.iload 5, 2) := by decide +kernel
theorem dX10_best_53 : decode cX10_best 53 = .ok (.invokevirtual 212, 3) := by decide +kernel
theorem dX10_best_56 : decode cX10_best 56 = .ok (.pop, 1) := by decide +kernel
theorem dX10_best_57 : decode cX10_best 57 = .ok (.aload_n 0, 1) := by decide +kernel
theorem dX10_best_58 : decode cX10_best 58 = .ok (.getfield 46, 3) := by decide +kernel
theorem dX10_best_61 : decode cX10_best 61 = .ok (.getfield 216, 3) := by decide +kernel
theorem dX10_best_64 : decode cX10_best 64 = .ok (.ireturn, 1) := by decide +kernel
theorem dX10_bestAct_0 : decode cX10_bestAct 0 = .ok (.aload_n 0, 1) := by decide +kernel
theorem dX10_bestAct_1 : decode cX10_bestAct 1 = .ok (.iload_n 1, 1) := by decide +kernel
theorem dX10_bestAct_2 : decode cX10_bestAct 2 = .ok (.iload_n 2, 1) := by decide +kernel
theorem dX10_bestAct_3 : decode cX10_bestAct 3 = .ok (.iload_n 3, 1) := by decide +kernel
theorem dX10_bestAct_4 : decode cX10_bestAct 4 = .ok (.iload 4, 2) := by decide +kernel
theorem dX10_bestAct_6 : decode cX10_bestAct 6 = .ok (.invokevirtual 188, 3) := by decide +kernel
theorem dX10_bestAct_9 : decode cX10_bestAct 9 = .ok (.ifCond .eq 14, 3) := by decide +kernel
theorem dX10_bestAct_12 : decode cX10_bestAct 12 = .ok (.iload 5, 2) := by decide +kernel
theorem dX10_bestAct_14 : decode cX10_bestAct 14 = .ok (.iconst 0, 1) := by decide +kernel
theorem dX10_bestAct_15 : decode cX10_bestAct 15 = .ok (.bipush 28, 2) := by decide +kernel
theorem dX10_bestAct_17 : decode cX10_bestAct 17 = .ok (.invokestatic 206, 3) := by decide +kernel
theorem dX10_bestAct_20 : decode cX10_bestAct 20 = .ok (.ifCond .ne 6, 3) := by decide +kernel
theorem dX10_bestAct_23 : decode cX10_bestAct 23 = .ok (.bipush (-2), 2) := by decide +kernel
theorem dX10_bestAct_25 : decode cX10_bestAct 25 = .ok (.ireturn, 1) := by decide +kernel
theorem dX10_bestAct_26 : decode cX10_bestAct 26 = .ok (.iload 5, 2) := by decide +kernel
theorem dX10_bestAct_28 : decode cX10_bestAct 28 = .ok (.ifCond .ne 5, 3) := by decide +kernel
theorem dX10_bestAct_31 : decode cX10_bestAct 31 = .ok (.iconst (-1), 1) := by decide +kernel
theorem dX10_bestAct_32 : decode cX10_bestAct 32 = .ok (.ireturn, 1) := by decide +kernel
theorem dX10_bestAct_33 : decode cX10_bestAct 33 = .ok (.aload_n 0, 1) := by decide +kernel
theorem dX10_bestAct_34 : decode cX10_bestAct 34 = .ok (.getfield 46, 3) := by decide +kernel
theorem dX10_bestAct_37 : decode cX10_bestAct 37 = .ok (.iload_n 1, 1) := by decide +kernel
theorem dX10_bestAct_38 : decode cX10_bestAct 38 = .ok (.iload_n 2, 1) := by decide +kernel
theorem dX10_bestAct_39 : decode cX10_bestAct 39 = .ok (.aload_n 0, 1) := by decide +kernel
theorem dX10_bestAct_40 : decode cX10_bestAct 40 = .ok (.getfield 33, 3) := by decide +kernel
theorem dX10_bestAct_43 : decode cX10_bestAct 43 = .ok (.iload_n 1, 1) := by decide +kernel
theorem dX10_bestAct_44 : decode cX10_bestAct 44 = .ok (.iload_n 2, 1) := by decide +kernel
theorem dX10_bestAct_45 : decode cX10_bestAct 45 = .ok (.iload_n 3, 1) := by decide +kernel
theorem dX10_bestAct_46 : decode cX10_bestAct 46 = .ok (.invokevirtual 209, 3) := by decide +kernel
theorem dX10_bestAct_49 : decode cX10_bestAct 49 = .ok (.iload 4, 2) := by decide +kernel
theorem dX10_bestAct_51 : decode cX10_bestAct 51 = .ok (.iload 5, 2) := by decide +kernel
theorem dX10_bestAct_53 : decode cX10_bestAct 53 = .ok (.invokevirtual 212, 3) := by decide +kernel
theorem dX10_bestAct_56 : decode cX10_bestAct 56 = .ok (.ireturn, 1) := by decide +kernel
theorem dX10_wayAct_0 : decode cX10_wayAct 0 = .ok (.iload_n 1, 1) := by decide +kernel
theorem dX10_wayAct_1 : decode cX10_wayAct 1 = .ok (.invokestatic 219, 3) := by decide +kernel
theorem dX10_wayAct_4 : decode cX10_wayAct 4 = .ok (.ifCond .eq 16, 3) := by decide +kernel
theorem dX10_wayAct_7 : decode cX10_wayAct 7 = .ok (.aload_n 0, 1) := by decide +kernel
theorem dX10_wayAct_8 : decode cX10_wayAct 8 = .ok (.iload_n 2, 1) := by decide +kernel
theorem dX10_wayAct_9 : decode cX10_wayAct 9 = .ok (.iload_n 3, 1) := by decide +kernel
theorem dX10_wayAct_10 : decode cX10_wayAct 10 = .ok (.iload 4, 2) := by decide +kernel
theorem dX10_wayAct_12 : decode cX10_wayAct 12 = .ok (.iload 5, 2) := by decide +kernel
theorem dX10_wayAct_14 : decode cX10_wayAct 14 = .ok (.invokevirtual 188, 3) := by decide +kernel
theorem dX10_wayAct_17 : decode cX10_wayAct 17 = .ok (.ifCond .ne 6, 3) := by decide +kernel
theorem dX10_wayAct_20 : decode cX10_wayAct 20 = .ok (.bipush (-2), 2) := by decide +kernel
theorem dX10_wayAct_22 : decode cX10_wayAct 22 = .ok (.ireturn, 1) := by decide +kernel
theorem dX10_wayAct_23 : decode cX10_wayAct 23 = .ok (.iload_n 1, 1) := by decide +kernel
theorem dX10_wayAct_24 : decode cX10_wayAct 24 = .ok (.iconst 3, 1) := by decide +kernel
theorem dX10_wayAct_25 : decode cX10_wayAct 25 = .ok (.if_icmp .ne 19, 3) := by decide +kernel
theorem dX10_wayAct_28 : decode cX10_wayAct 28 = .ok (.aload_n 0, 1) := by decide +kernel
theorem dX10_wayAct_29 : decode cX10_wayAct 29 = .ok (.getfield 46, 3) := by decide +kernel
theorem dX10_wayAct_32 : decode cX10_wayAct 32 = .ok (.iload_n 2, 1) := by decide +kernel
theorem dX10_wayAct_33 : decode cX10_wayAct 33 = .ok (.iload_n 3, 1) := by decide +kernel
theorem dX10_wayAct_34 : decode cX10_wayAct 34 = .ok (.iload 4, 2) := by decide +kernel
theorem dX10_wayAct_36 : decode cX10_wayAct 36 = .ok (.iload 5, 2) := by decide +kernel
theorem dX10_wayAct_38 : decode cX10_wayAct 38 = .ok (.bipush 7, 2) := by decide +kernel
theorem dX10_wayAct_40 : decode cX10_wayAct 40 = .ok (.invokevirtual 212, 3) := by decide +kernel
theorem dX10_wayAct_43 : decode cX10_wayAct 43 = .ok (.ireturn, 1) := by decide +kernel
theorem dX10_wayAct_44 : decode cX10_wayAct 44 = .ok (.aload_n 0, 1) := by decide +kernel
theorem dX10_wayAct_45 : decode cX10_wayAct 45 = .ok (.getfield 55, 3) := by decide +kernel
theorem dX10_wayAct_48 : decode cX10_wayAct 48 = .ok (.getfield 192, 3) := by decide +kernel
theorem dX10_wayAct_51 : decode cX10_wayAct 51 = .ok (.astore 6, 2) := by decide +kernel
theorem dX10_wayAct_53 : decode cX10_wayAct 53 = .ok (.aload 6, 2) := by decide +kernel
theorem dX10_wayAct_55 : decode cX10_wayAct 55 = .ok (.aload_n 0, 1) := by decide +kernel
theorem dX10_wayAct_56 : decode cX10_wayAct 56 = .ok (.getfield 33, 3) := by decide +kernel
theorem dX10_wayAct_59 : decode cX10_wayAct 59 = .ok (.iload_n 2, 1) := by decide +kernel
theorem dX10_wayAct_60 : decode cX10_wayAct 60 = .ok (.iload_n 3, 1) := by decide +kernel
theorem dX10_wayAct_61 : decode cX10_wayAct 61 = .ok (.invokevirtual 196, 3) := by decide +kernel
theorem dX10_wayAct_64 : decode cX10_wayAct 64 = .ok (.aload 6, 2) := by decide +kernel
theorem dX10_wayAct_66 : decode cX10_wayAct 66 = .ok (.iload_n 1, 1) := by decide +kernel
theorem dX10_wayAct_67 : decode cX10_wayAct 67 = .ok (.iload 4, 2) := by decide +kernel
theorem dX10_wayAct_69 : decode cX10_wayAct 69 = .ok (.iload 5, 2) := by decide +kernel
theorem dX10_wayAct_71 : decode cX10_wayAct 71 = .ok (.invokevirtual 222, 3) := by decide +kernel
theorem dX10_wayAct_74 : decode cX10_wayAct 74 = .ok (.ireturn, 1) := by decide +kernel
theorem dX10_way_0 : decode cX10_way 0 = .ok (.aload_n 0, 1) := by decide +kernel
theorem dX10_way_1 : decode cX10_way 1 = .ok (.iload_n 1, 1) := by decide +kernel
theorem dX10_way_2 : decode cX10_way 2 = .ok (.invokevirtual 152, 3) := by decide +kernel
theorem dX10_way_5 : decode cX10_way 5 = .ok (.ifCond .eq 10, 3) := by decide +kernel
theorem dX10_way_8 : decode cX10_way 8 = .ok (.iload_n 2, 1) := by decide +kernel
theorem dX10_way_9 : decode cX10_way 9 = .ok (.invokestatic 219, 3) := by decide +kernel
theorem dX10_way_12 : decode cX10_way 12 = .ok (.ifCond .ne 6, 3) := by decide +kernel
theorem dX10_way_15 : decode cX10_way 15 = .ok (.bipush (-2), 2) := by decide +kernel
theorem dX10_way_17 : decode cX10_way 17 = .ok (.ireturn, 1) := by decide +kernel
theorem dX10_way_18 : decode cX10_way 18 = .ok (.aload_n 0, 1) := by decide +kernel
theorem dX10_way_19 : decode cX10_way 19 = .ok (.getfield 62, 3) := by decide +kernel
theorem dX10_way_22 : decode cX10_way 22 = .ok (.getfield 225, 3) := by decide +kernel
theorem dX10_way_25 : decode cX10_way 25 = .ok (.iload_n 1, 1) := by decide +kernel
theorem dX10_way_26 : decode cX10_way 26 = .ok (.iaload, 1) := by decide +kernel
theorem dX10_way_27 : decode cX10_way 27 = .ok (.istore_n 3, 1) := by decide +kernel
theorem dX10_way_28 : decode cX10_way 28 = .ok (.aload_n 0, 1) := by decide +kernel
theorem dX10_way_29 : decode cX10_way 29 = .ok (.getfield 62, 3) := by decide +kernel
theorem dX10_way_32 : decode cX10_way 32 = .ok (.getfield 225, 3) := by decide +kernel
theorem dX10_way_35 : decode cX10_way 35 = .ok (.iload_n 1, 1) := by decide +kernel
theorem dX10_way_36 : decode cX10_way 36 = .ok (.iload_n 2, 1) := by decide +kernel
theorem dX10_way_37 : decode cX10_way 37 = .ok (.iastore, 1) := by decide +kernel
theorem dX10_way_38 : decode cX10_way 38 = .ok (.iload_n 3, 1) := by decide +kernel
theorem dX10_way_39 : decode cX10_way 39 = .ok (.ireturn, 1) := by decide +kernel
theorem dX10_pass_0 : decode cX10_pass 0 = .ok (.iload_n 1, 1) := by decide +kernel
theorem dX10_pass_1 : decode cX10_pass 1 = .ok (.ifCond .lt 9, 3) := by decide +kernel
theorem dX10_pass_4 : decode cX10_pass 4 = .ok (.iload_n 1, 1) := by decide +kernel
theorem dX10_pass_5 : decode cX10_pass 5 = .ok (.bipush 70, 2) := by decide +kernel
theorem dX10_pass_7 : decode cX10_pass 7 = .ok (.if_icmp .le 6, 3) := by decide +kernel
theorem dX10_pass_10 : decode cX10_pass 10 = .ok (.bipush (-2), 2) := by decide +kernel
theorem dX10_pass_12 : decode cX10_pass 12 = .ok (.ireturn, 1) := by decide +kernel
theorem dX10_pass_13 : decode cX10_pass 13 = .ok (.iconst 0, 1) := by decide +kernel
theorem dX10_pass_14 : decode cX10_pass 14 = .ok (.istore_n 2, 1) := by decide +kernel
theorem dX10_pass_15 : decode cX10_pass 15 = .ok (.iload_n 2, 1) := by decide +kernel
theorem dX10_pass_16 : decode cX10_pass 16 = .ok (.iload_n 1, 1) := by decide +kernel
theorem dX10_pass_17 : decode cX10_pass 17 = .ok (.if_icmp .ge 21, 3) := by decide +kernel
theorem dX10_pass_20 : decode cX10_pass 20 = .ok (.aload_n 0, 1) := by decide +kernel
theorem dX10_pass_21 : decode cX10_pass 21 = .ok (.getfield 55, 3) := by decide +kernel
theorem dX10_pass_24 : decode cX10_pass 24 = .ok (.aload_n 0, 1) := by decide +kernel
theorem dX10_pass_25 : decode cX10_pass 25 = .ok (.getfield 62, 3) := by decide +kernel
theorem dX10_pass_28 : decode cX10_pass 28 = .ok (.iconst 1, 1) := by decide +kernel
theorem dX10_pass_29 : decode cX10_pass 29 = .ok (.invokevirtual 228, 3) := by decide +kernel
theorem dX10_pass_32 : decode cX10_pass 32 = .ok (.iinc 2 1, 3) := by decide +kernel
theorem dX10_pass_35 : decode cX10_pass 35 = .ok (.goto (-20), 3) := by decide +kernel
theorem dX10_pass_38 : decode cX10_pass 38 = .ok (.aload_n 0, 1) := by decide +kernel
theorem dX10_pass_39 : decode cX10_pass 39 = .ok (.getfield 62, 3) := by decide +kernel
theorem dX10_pass_42 : decode cX10_pass 42 = .ok (.getfield 232, 3) := by decide +kernel
theorem dX10_pass_45 : decode cX10_pass 45 = .ok (.ireturn, 1) := by decide +kernel
theorem dX10_run_0 : decode cX10_run 0 = .ok (.aload_n 0, 1) := by decide +kernel
theorem dX10_run_1 : decode cX10_run 1 = .ok (.iload_n 1, 1) := by decide +kernel
theorem dX10_run_2 : decode cX10_run 2 = .ok (.invokevirtual 152, 3) := by decide +kernel
theorem dX10_run_5 : decode cX10_run 5 = .ok (.ifCond .eq 13, 3) := by decide +kernel
theorem dX10_run_8 : decode cX10_run 8 = .ok (.iload_n 2, 1) := by decide +kernel
theorem dX10_run_9 : decode cX10_run 9 = .ok (.ifCond .lt 9, 3) := by decide +kernel
theorem dX10_run_12 : decode cX10_run 12 = .ok (.iload_n 2, 1) := by decide +kernel
theorem dX10_run_13 : decode cX10_run 13 = .ok (.bipush 7, 2) := by decide +kernel
theorem dX10_run_15 : decode cX10_run 15 = .ok (.if_icmp .lt 6, 3) := by decide +kernel
theorem dX10_run_18 : decode cX10_run 18 = .ok (.bipush (-2), 2) := by decide +kernel
theorem dX10_run_20 : decode cX10_run 20 = .ok (.ireturn, 1) := by decide +kernel
theorem dX10_run_21 : decode cX10_run 21 = .ok (.aload_n 0, 1) := by decide +kernel
theorem dX10_run_22 : decode cX10_run 22 = .ok (.getfield 62, 3) := by decide +kernel
theorem dX10_run_25 : decode cX10_run 25 = .ok (.getfield 235, 3) := by decide +kernel
theorem dX10_run_28 : decode cX10_run 28 = .ok (.iload_n 1, 1) := by decide +kernel
theorem dX10_run_29 : decode cX10_run 29 = .ok (.bipush 7, 2) := by decide +kernel
theorem dX10_run_31 : decode cX10_run 31 = .ok (.imul, 1) := by decide +kernel
theorem dX10_run_32 : decode cX10_run 32 = .ok (.iload_n 2, 1) := by decide +kernel
theorem dX10_run_33 : decode cX10_run 33 = .ok (.iadd, 1) := by decide +kernel
theorem dX10_run_34 : decode cX10_run 34 = .ok (.iaload, 1) := by decide +kernel
theorem dX10_run_35 : decode cX10_run 35 = .ok (.ireturn, 1) := by decide +kernel
theorem dX10_all_0 : decode cX10_all 0 = .ok (.iload_n 1, 1) := by decide +kernel
theorem dX10_all_1 : decode cX10_all 1 = .ok (.tableswitch 63 0 3 #[31, 39, 47, 55], 31) := by decide +kernel
theorem dX10_all_32 : decode cX10_all 32 = .ok (.aload_n 0, 1) := by decide +kernel
theorem dX10_all_33 : decode cX10_all 33 = .ok (.getfield 62, 3) := by decide +kernel
theorem dX10_all_36 : decode cX10_all 36 = .ok (.getfield 238, 3) := by decide +kernel
theorem dX10_all_39 : decode cX10_all 39 = .ok (.ireturn, 1) := by decide +kernel
theorem dX10_all_40 : decode cX10_all 40 = .ok (.aload_n 0, 1) := by decide +kernel
theorem dX10_all_41 : decode cX10_all 41 = .ok (.getfield 62, 3) := by decide +kernel
theorem dX10_all_44 : decode cX10_all 44 = .ok (.getfield 232, 3) := by decide +kernel
theorem dX10_all_47 : decode cX10_all 47 = .ok (.ireturn, 1) := by decide +kernel
theorem dX10_all_48 : decode cX10_all 48 = .ok (.aload_n 0, 1) := by decide +kernel
theorem dX10_all_49 : decode cX10_all 49 = .ok (.getfield 62, 3) := by decide +kernel
theorem dX10_all_52 : decode cX10_all 52 = .ok (.invokevirtual 239, 3) := by decide +kernel
theorem dX10_all_55 : decode cX10_all 55 = .ok (.ireturn, 1) := by decide +kernel
theorem dX10_all_56 : decode cX10_all 56 = .ok (.aload_n 0, 1) := by decide +kernel
theorem dX10_all_57 : decode cX10_all 57 = .ok (.getfield 62, 3) := by decide +kernel
theorem dX10_all_60 : decode cX10_all 60 = .ok (.getfield 243, 3) := by decide +kernel
theorem dX10_all_63 : decode cX10_all 63 = .ok (.ireturn, 1) := by decide +kernel
theorem dX10_all_64 : decode cX10_all 64 = .ok (.iconst (-1), 1) := by decide +kernel
theorem dX10_all_65 : decode cX10_all 65 = .ok (.ireturn, 1) := by decide +kernel
theorem dX10_anew_0 : decode cX10_anew 0 = .ok (.aload_n 0, 1) := by decide +kernel
theorem dX10_anew_1 : decode cX10_anew 1 = .ok (.getfield 62, 3) := by decide +kernel
theorem dX10_anew_4 : decode cX10_anew 4 = .ok (.getfield 232, 3) := by decide +kernel
theorem dX10_anew_7 : decode cX10_anew 7 = .ok (.istore_n 1, 1) := by decide +kernel
theorem dX10_anew_8 : decode cX10_anew 8 = .ok (.aload_n 0, 1) := by decide +kernel
theorem dX10_anew_9 : decode cX10_anew 9 = .ok (.getfield 62, 3) := by decide +kernel
theorem dX10_anew_12 : decode cX10_anew 12 = .ok (.aload_n 0, 1) := by decide +kernel
theorem dX10_anew_13 : decode cX10_anew 13 = .ok (.getfield 33, 3) := by decide +kernel
theorem dX10_anew_16 : decode cX10_anew 16 = .ok (.getfield 102, 3) := by decide +kernel
theorem dX10_anew_19 : decode cX10_anew 19 = .ok (.invokevirtual 246, 3) := by decide +kernel
theorem dX10_anew_22 : decode cX10_anew 22 = .ok (.iload_n 1, 1) := by decide +kernel
theorem dX10_anew_23 : decode cX10_anew 23 = .ok (.ireturn, 1) := by decide +kernel
theorem dX10_keep_0 : decode cX10_keep 0 = .ok (.iload_n 1, 1) := by decide +kernel
theorem dX10_keep_1 : decode cX10_keep 1 = .ok (.ifCond .lt 8, 3) := by decide +kernel
theorem dX10_keep_4 : decode cX10_keep 4 = .ok (.iload_n 1, 1) := by decide +kernel
theorem dX10_keep_5 : decode cX10_keep 5 = .ok (.iconst 3, 1) := by decide +kernel
theorem dX10_keep_6 : decode cX10_keep 6 = .ok (.if_icmp .lt 6, 3) := by decide +kernel
theorem dX10_keep_9 : decode cX10_keep 9 = .ok (.bipush (-2), 2) := by decide +kernel
theorem dX10_keep_11 : decode cX10_keep 11 = .ok (.ireturn, 1) := by decide +kernel
theorem dX10_keep_12 : decode cX10_keep 12 = .ok (.aload_n 0, 1) := by decide +kernel
theorem dX10_keep_13 : decode cX10_keep 13 = .ok (.getfield 69, 3) := by decide +kernel
theorem dX10_keep_16 : decode cX10_keep 16 = .ok (.iload_n 1, 1) := by decide +kernel
theorem dX10_keep_17 : decode cX10_keep 17 = .ok (.aaload, 1) := by decide +kernel
theorem dX10_keep_18 : decode cX10_keep 18 = .ok (.aload_n 0, 1) := by decide +kernel
theorem dX10_keep_19 : decode cX10_keep 19 = .ok (.getfield 62, 3) := by decide +kernel
theorem dX10_keep_22 : decode cX10_keep 22 = .ok (.invokevirtual 249, 3) := by decide +kernel
theorem dX10_keep_25 : decode cX10_keep 25 = .ok (.aload_n 0, 1) := by decide +kernel
theorem dX10_keep_26 : decode cX10_keep 26 = .ok (.getfield 62, 3) := by decide +kernel
theorem dX10_keep_29 : decode cX10_keep 29 = .ok (.getfield 232, 3) := by decide +kernel
theorem dX10_keep_32 : decode cX10_keep 32 = .ok (.ireturn, 1) := by decide +kernel
theorem dX10_take_0 : decode cX10_take 0 = .ok (.iload_n 1, 1) := by decide +kernel
theorem dX10_take_1 : decode cX10_take 1 = .ok (.ifCond .lt 8, 3) := by decide +kernel
theorem dX10_take_4 : decode cX10_take 4 = .ok (.iload_n 1, 1) := by decide +kernel
theorem dX10_take_5 : decode cX10_take 5 = .ok (.iconst 3, 1) := by decide +kernel
theorem dX10_take_6 : decode cX10_take 6 = .ok (.if_icmp .lt 6, 3) := by decide +kernel
theorem dX10_take_9 : decode cX10_take 9 = .ok (.bipush (-2), 2) := by decide +kernel
theorem dX10_take_11 : decode cX10_take 11 = .ok (.ireturn, 1) := by decide +kernel
theorem dX10_take_12 : decode cX10_take 12 = .ok (.aload_n 0, 1) := by decide +kernel
theorem dX10_take_13 : decode cX10_take 13 = .ok (.getfield 69, 3) := by decide +kernel
theorem dX10_take_16 : decode cX10_take 16 = .ok (.iload_n 1, 1) := by decide +kernel
theorem dX10_take_17 : decode cX10_take 17 = .ok (.aaload, 1) := by decide +kernel
theorem dX10_take_18 : decode cX10_take 18 = .ok (.getfield 232, 3) := by decide +kernel
theorem dX10_take_21 : decode cX10_take 21 = .ok (.iconst (-1), 1) := by decide +kernel
theorem dX10_take_22 : decode cX10_take 22 = .ok (.if_icmp .ne 6, 3) := by decide +kernel
theorem dX10_take_25 : decode cX10_take 25 = .ok (.bipush (-4), 2) := by decide +kernel
theorem dX10_take_27 : decode cX10_take 27 = .ok (.ireturn, 1) := by decide +kernel
theorem dX10_take_28 : decode cX10_take 28 = .ok (.aload_n 0, 1) := by decide +kernel
theorem dX10_take_29 : decode cX10_take 29 = .ok (.getfield 62, 3) := by decide +kernel
theorem dX10_take_32 : decode cX10_take 32 = .ok (.aload_n 0, 1) := by decide +kernel
theorem dX10_take_33 : decode cX10_take 33 = .ok (.getfield 69, 3) := by decide +kernel
theorem dX10_take_36 : decode cX10_take 36 = .ok (.iload_n 1, 1) := by decide +kernel
theorem dX10_take_37 : decode cX10_take 37 = .ok (.aaload, 1) := by decide +kernel
theorem dX10_take_38 : decode cX10_take 38 = .ok (.invokevirtual 249, 3) := by decide +kernel
theorem dX10_take_41 : decode cX10_take 41 = .ok (.aload_n 0, 1) := by decide +kernel
theorem dX10_take_42 : decode cX10_take 42 = .ok (.getfield 62, 3) := by decide +kernel
theorem dX10_take_45 : decode cX10_take 45 = .ok (.getfield 232, 3) := by decide +kernel
theorem dX10_take_48 : decode cX10_take 48 = .ok (.ireturn, 1) := by decide +kernel
theorem dX10_worthAt_0 : decode cX10_worthAt 0 = .ok (.iload_n 1, 1) := by decide +kernel
theorem dX10_worthAt_1 : decode cX10_worthAt 1 = .ok (.ifCond .lt 16, 3) := by decide +kernel
theorem dX10_worthAt_4 : decode cX10_worthAt 4 = .ok (.iload_n 1, 1) := by decide +kernel
theorem dX10_worthAt_5 : decode cX10_worthAt 5 = .ok (.bipush 18, 2) := by decide +kernel
theorem dX10_worthAt_7 : decode cX10_worthAt 7 = .ok (.if_icmp .gt 10, 3) := by decide +kernel
theorem dX10_worthAt_10 : decode cX10_worthAt 10 = .ok (.iload_n 2, 1) := by decide +kernel
theorem dX10_worthAt_11 : decode cX10_worthAt 11 = .ok (.invokestatic 253, 3) := by decide +kernel
theorem dX10_worthAt_14 : decode cX10_worthAt 14 = .ok (.ifCond .ne 8, 3) := by decide +kernel
theorem dX10_worthAt_17 : decode cX10_worthAt 17 = .ok (.bipush (-2), 2) := by decide +kernel
theorem dX10_worthAt_19 : decode cX10_worthAt 19 = .ok (.goto 9, 3) := by decide +kernel
theorem dX10_worthAt_22 : decode cX10_worthAt 22 = .ok (.aload_n 0, 1) := by decide +kernel
theorem dX10_worthAt_23 : decode cX10_worthAt 23 = .ok (.iload_n 1, 1) := by decide +kernel
theorem dX10_worthAt_24 : decode cX10_worthAt 24 = .ok (.iload_n 2, 1) := by decide +kernel
theorem dX10_worthAt_25 : decode cX10_worthAt 25 = .ok (.invokevirtual 256, 3) := by decide +kernel
theorem dX10_worthAt_28 : decode cX10_worthAt 28 = .ok (.ireturn, 1) := by decide +kernel
theorem dX10_rate_0 : decode cX10_rate 0 = .ok (.iload_n 1, 1) := by decide +kernel
theorem dX10_rate_1 : decode cX10_rate 1 = .ok (.invokestatic 253, 3) := by decide +kernel
theorem dX10_rate_4 : decode cX10_rate 4 = .ok (.ifCond .ne 6, 3) := by decide +kernel
theorem dX10_rate_7 : decode cX10_rate 7 = .ok (.bipush (-2), 2) := by decide +kernel
theorem dX10_rate_9 : decode cX10_rate 9 = .ok (.ireturn, 1) := by decide +kernel
theorem dX10_rate_10 : decode cX10_rate 10 = .ok (.aload_n 0, 1) := by decide +kernel
theorem dX10_rate_11 : decode cX10_rate 11 = .ok (.iconst 0, 1) := by decide +kernel
theorem dX10_rate_12 : decode cX10_rate 12 = .ok (.iload_n 1, 1) := by decide +kernel
theorem dX10_rate_13 : decode cX10_rate 13 = .ok (.invokevirtual 256, 3) := by decide +kernel
theorem dX10_rate_16 : decode cX10_rate 16 = .ok (.istore_n 2, 1) := by decide +kernel
theorem dX10_rate_17 : decode cX10_rate 17 = .ok (.iconst 0, 1) := by decide +kernel
theorem dX10_rate_18 : decode cX10_rate 18 = .ok (.istore_n 3, 1) := by decide +kernel
theorem dX10_rate_19 : decode cX10_rate 19 = .ok (.iconst 1, 1) := by decide +kernel
theorem dX10_rate_20 : decode cX10_rate 20 = .ok (.istore 4, 2) := by decide +kernel
theorem dX10_rate_22 : decode cX10_rate 22 = .ok (.iload 4, 2) := by decide +kernel
theorem dX10_rate_24 : decode cX10_rate 24 = .ok (.bipush 18, 2) := by decide +kernel
theorem dX10_rate_26 : decode cX10_rate 26 = .ok (.if_icmp .gt 30, 3) := by decide +kernel
theorem dX10_rate_29 : decode cX10_rate 29 = .ok (.aload_n 0, 1) := by decide +kernel
theorem dX10_rate_30 : decode cX10_rate 30 = .ok (.iload 4, 2) := by decide +kernel
theorem dX10_rate_32 : decode cX10_rate 32 = .ok (.iload_n 1, 1) := by decide +kernel
theorem dX10_rate_33 : decode cX10_rate 33 = .ok (.invokevirtual 256, 3) := by decide +kernel
theorem dX10_rate_36 : decode cX10_rate 36 = .ok (.istore 5, 2) := by decide +kernel
theorem dX10_rate_38 : decode cX10_rate 38 = .ok (.iload 5, 2) := by decide +kernel
theorem dX10_rate_40 : decode cX10_rate 40 = .ok (.iload_n 2, 1) := by decide +kernel
theorem dX10_rate_41 : decode cX10_rate 41 = .ok (.if_icmp .le 9, 3) := by decide +kernel
theorem dX10_rate_44 : decode cX10_rate 44 = .ok (.iload 5, 2) := by decide +kernel
theorem dX10_rate_46 : decode cX10_rate 46 = .ok (.istore_n 2, 1) := by decide +kernel
theorem dX10_rate_47 : decode cX10_rate 47 = .ok (.iload 4, 2) := by decide +kernel
theorem dX10_rate_49 : decode cX10_rate 49 = .ok (.istore_n 3, 1) := by decide +kernel
theorem dX10_rate_50 : decode cX10_rate 50 = .ok (.iinc 4 1, 3) := by decide +kernel
theorem dX10_rate_53 : decode cX10_rate 53 = .ok (.goto (-31), 3) := by decide +kernel
theorem dX10_rate_56 : decode cX10_rate 56 = .ok (.iload_n 3, 1) := by decide +kernel
theorem dX10_rate_57 : decode cX10_rate 57 = .ok (.ireturn, 1) := by decide +kernel
theorem dX10_rest_0 : decode cX10_rest 0 = .ok (.iload_n 1, 1) := by decide +kernel
theorem dX10_rest_1 : decode cX10_rest 1 = .ok (.ifCond .eq 11, 3) := by decide +kernel
theorem dX10_rest_4 : decode cX10_rest 4 = .ok (.iload_n 1, 1) := by decide +kernel
theorem dX10_rest_5 : decode cX10_rest 5 = .ok (.iconst 1, 1) := by decide +kernel
theorem dX10_rest_6 : decode cX10_rest 6 = .ok (.if_icmp .eq 6, 3) := by decide +kernel
theorem dX10_rest_9 : decode cX10_rest 9 = .ok (.bipush (-2), 2) := by decide +kernel
theorem dX10_rest_11 : decode cX10_rest 11 = .ok (.ireturn, 1) := by decide +kernel
theorem dX10_rest_12 : decode cX10_rest 12 = .ok (.iload_n 1, 1) := by decide +kernel
theorem dX10_rest_13 : decode cX10_rest 13 = .ok (.iconst 1, 1) := by decide +kernel
theorem dX10_rest_14 : decode cX10_rest 14 = .ok (.if_icmp .ne 10, 3) := by decide +kernel
theorem dX10_rest_17 : decode cX10_rest 17 = .ok (.aload_n 0, 1) := by decide +kernel
theorem dX10_rest_18 : decode cX10_rest 18 = .ok (.getfield 33, 3) := by decide +kernel
theorem dX10_rest_21 : decode cX10_rest 21 = .ok (.invokevirtual 260, 3) := by decide +kernel
theorem dX10_rest_24 : decode cX10_rest 24 = .ok (.iconst 0, 1) := by decide +kernel
theorem dX10_rest_25 : decode cX10_rest 25 = .ok (.istore_n 2, 1) := by decide +kernel
theorem dX10_rest_26 : decode cX10_rest 26 = .ok (.aload_n 0, 1) := by decide +kernel
theorem dX10_rest_27 : decode cX10_rest 27 = .ok (.iconst 0, 1) := by decide +kernel
theorem dX10_rest_28 : decode cX10_rest 28 = .ok (.putfield 263, 3) := by decide +kernel
theorem dX10_rest_31 : decode cX10_rest 31 = .ok (.aload_n 0, 1) := by decide +kernel
theorem dX10_rest_32 : decode cX10_rest 32 = .ok (.getfield 263, 3) := by decide +kernel
theorem dX10_rest_35 : decode cX10_rest 35 = .ok (.bipush 60, 2) := by decide +kernel
theorem dX10_rest_37 : decode cX10_rest 37 = .ok (.if_icmp .ge 33, 3) := by decide +kernel
theorem dX10_rest_40 : decode cX10_rest 40 = .ok (.iload_n 2, 1) := by decide +kernel
theorem dX10_rest_41 : decode cX10_rest 41 = .ok (.ifCond .ne 29, 3) := by decide +kernel
theorem dX10_rest_44 : decode cX10_rest 44 = .ok (.aload_n 0, 1) := by decide +kernel
theorem dX10_rest_45 : decode cX10_rest 45 = .ok (.dup, 1) := by decide +kernel
theorem dX10_rest_46 : decode cX10_rest 46 = .ok (.getfield 263, 3) := by decide +kernel
theorem dX10_rest_49 : decode cX10_rest 49 = .ok (.iconst 1, 1) := by decide +kernel
theorem dX10_rest_50 : decode cX10_rest 50 = .ok (.iadd, 1) := by decide +kernel
theorem dX10_rest_51 : decode cX10_rest 51 = .ok (.putfield 263, 3) := by decide +kernel
theorem dX10_rest_54 : decode cX10_rest 54 = .ok (.aload_n 0, 1) := by decide +kernel
theorem dX10_rest_55 : decode cX10_rest 55 = .ok (.invokevirtual 266, 3) := by decide +kernel
theorem dX10_rest_58 : decode cX10_rest 58 = .ok (.ifCond .ne 7, 3) := by decide +kernel
theorem dX10_rest_61 : decode cX10_rest 61 = .ok (.iconst 1, 1) := by decide +kernel
theorem dX10_rest_62 : decode cX10_rest 62 = .ok (.goto 4, 3) := by decide +kernel
theorem dX10_rest_65 : decode cX10_rest 65 = .ok (.iconst 0, 1) := by decide +kernel
theorem dX10_rest_66 : decode cX10_rest 66 = .ok (.istore_n 2, 1) := by decide +kernel
theorem dX10_rest_67 : decode cX10_rest 67 = .ok (.goto (-36), 3) := by decide +kernel
theorem dX10_rest_70 : decode cX10_rest 70 = .ok (.iload_n 2, 1) := by decide +kernel
theorem dX10_rest_71 : decode cX10_rest 71 = .ok (.ifCond .eq 7, 3) := by decide +kernel
theorem dX10_rest_74 : decode cX10_rest 74 = .ok (.iconst 1, 1) := by decide +kernel
theorem dX10_rest_75 : decode cX10_rest 75 = .ok (.goto 4, 3) := by decide +kernel
theorem dX10_rest_78 : decode cX10_rest 78 = .ok (.iconst 0, 1) := by decide +kernel
theorem dX10_rest_79 : decode cX10_rest 79 = .ok (.ireturn, 1) := by decide +kernel
theorem dX10_restTurns_0 : decode cX10_restTurns 0 = .ok (.aload_n 0, 1) := by decide +kernel
theorem dX10_restTurns_1 : decode cX10_restTurns 1 = .ok (.getfield 263, 3) := by decide +kernel
theorem dX10_restTurns_4 : decode cX10_restTurns 4 = .ok (.ireturn, 1) := by decide +kernel
theorem dX10_two_0 : decode cX10_two 0 = .ok (.iload_n 1, 1) := by decide +kernel
theorem dX10_two_1 : decode cX10_two 1 = .ok (.iconst 0, 1) := by decide +kernel
theorem dX10_two_2 : decode cX10_two 2 = .ok (.bipush 9, 2) := by decide +kernel
theorem dX10_two_4 : decode cX10_two 4 = .ok (.invokestatic 206, 3) := by decide +kernel
theorem dX10_two_7 : decode cX10_two 7 = .ok (.ifCond .eq 34, 3) := by decide +kernel
theorem dX10_two_10 : decode cX10_two 10 = .ok (.iload_n 2, 1) := by decide +kernel
theorem dX10_two_11 : decode cX10_two 11 = .ok (.iconst 0, 1) := by decide +kernel
theorem dX10_two_12 : decode cX10_two 12 = .ok (.bipush 9, 2) := by decide +kernel
theorem dX10_two_14 : decode cX10_two 14 = .ok (.invokestatic 206, 3) := by decide +kernel
theorem dX10_two_17 : decode cX10_two 17 = .ok (.ifCond .eq 24, 3) := by decide +kernel
theorem dX10_two_20 : decode cX10_two 20 = .ok (.iload_n 3, 1) := by decide +kernel
theorem dX10_two_21 : decode cX10_two 21 = .ok (.iconst 0, 1) := by decide +kernel
theorem dX10_two_22 : decode cX10_two 22 = .ok (.bipush 100, 2) := by decide +kernel
theorem dX10_two_24 : decode cX10_two 24 = .ok (.invokestatic 206, 3) := by decide +kernel
theorem dX10_two_27 : decode cX10_two 27 = .ok (.ifCond .eq 14, 3) := by decide +kernel
theorem dX10_two_30 : decode cX10_two 30 = .ok (.iload 4, 2) := by decide +kernel
theorem dX10_two_32 : decode cX10_two 32 = .ok (.iconst 0, 1) := by decide +kernel
theorem dX10_two_33 : decode cX10_two 33 = .ok (.bipush 100, 2) := by decide +kernel
theorem dX10_two_35 : decode cX10_two 35 = .ok (.invokestatic 206, 3) := by decide +kernel
theorem dX10_two_38 : decode cX10_two 38 = .ok (.ifCond .ne 6, 3) := by decide +kernel
theorem dX10_two_41 : decode cX10_two 41 = .ok (.bipush (-2), 2) := by decide +kernel
theorem dX10_two_43 : decode cX10_two 43 = .ok (.ireturn, 1) := by decide +kernel
theorem dX10_two_44 : decode cX10_two 44 = .ok (.iload 5, 2) := by decide +kernel
theorem dX10_two_46 : decode cX10_two 46 = .ok (.iconst 0, 1) := by decide +kernel
theorem dX10_two_47 : decode cX10_two 47 = .ok (.bipush 20, 2) := by decide +kernel
theorem dX10_two_49 : decode cX10_two 49 = .ok (.invokestatic 206, 3) := by decide +kernel
theorem dX10_two_52 : decode cX10_two 52 = .ok (.ifCond .eq 24, 3) := by decide +kernel
theorem dX10_two_55 : decode cX10_two 55 = .ok (.iload 6, 2) := by decide +kernel
theorem dX10_two_57 : decode cX10_two 57 = .ok (.iconst 1, 1) := by decide +kernel
theorem dX10_two_58 : decode cX10_two 58 = .ok (.bipush 20, 2) := by decide +kernel
theorem dX10_two_60 : decode cX10_two 60 = .ok (.invokestatic 206, 3) := by decide +kernel
theorem dX10_two_63 : decode cX10_two 63 = .ok (.ifCond .eq 13, 3) := by decide +kernel
theorem dX10_two_66 : decode cX10_two 66 = .ok (.iload 7, 2) := by decide +kernel
theorem dX10_two_68 : decode cX10_two 68 = .ok (.iconst 0, 1) := by decide +kernel
theorem dX10_two_69 : decode cX10_two 69 = .ok (.iconst 1, 1) := by decide +kernel
theorem dX10_two_70 : decode cX10_two 70 = .ok (.invokestatic 206, 3) := by decide +kernel
theorem dX10_two_73 : decode cX10_two 73 = .ok (.ifCond .ne 6, 3) := by decide +kernel
theorem dX10_two_76 : decode cX10_two 76 = .ok (.bipush (-2), 2) := by decide +kernel
theorem dX10_two_78 : decode cX10_two 78 = .ok (.ireturn, 1) := by decide +kernel
theorem dX10_two_79 : decode cX10_two 79 = .ok (.iload 5, 2) := by decide +kernel
theorem dX10_two_81 : decode cX10_two 81 = .ok (.ifCond .eq 9, 3) := by decide +kernel
theorem dX10_two_84 : decode cX10_two 84 = .ok (.iload_n 1, 1) := by decide +kernel
theorem dX10_two_85 : decode cX10_two 85 = .ok (.iload_n 2, 1) := by decide +kernel
theorem dX10_two_86 : decode cX10_two 86 = .ok (.iadd, 1) := by decide +kernel
theorem dX10_two_87 : decode cX10_two 87 = .ok (.ifCond .ne 14, 3) := by decide +kernel
theorem dX10_two_90 : decode cX10_two 90 = .ok (.iload 7, 2) := by decide +kernel
theorem dX10_two_92 : decode cX10_two 92 = .ok (.ifCond .ne 7, 3) := by decide +kernel
theorem dX10_two_95 : decode cX10_two 95 = .ok (.iconst 0, 1) := by decide +kernel
theorem dX10_two_96 : decode cX10_two 96 = .ok (.goto 4, 3) := by decide +kernel
theorem dX10_two_99 : decode cX10_two 99 = .ok (.iconst (-1), 1) := by decide +kernel
theorem dX10_two_100 : decode cX10_two 100 = .ok (.ireturn, 1) := by decide +kernel
theorem dX10_two_101 : decode cX10_two 101 = .ok (.aload_n 0, 1) := by decide +kernel
theorem dX10_two_102 : decode cX10_two 102 = .ok (.getfield 76, 3) := by decide +kernel
theorem dX10_two_105 : decode cX10_two 105 = .ok (.iload_n 3, 1) := by decide +kernel
theorem dX10_two_106 : decode cX10_two 106 = .ok (.iload 4, 2) := by decide +kernel
theorem dX10_two_108 : decode cX10_two 108 = .ok (.invokevirtual 270, 3) := by decide +kernel
theorem dX10_two_111 : decode cX10_two 111 = .ok (.aload_n 0, 1) := by decide +kernel
theorem dX10_two_112 : decode cX10_two 112 = .ok (.getfield 76, 3) := by decide +kernel
theorem dX10_two_115 : decode cX10_two 115 = .ok (.iload_n 1, 1) := by decide +kernel
theorem dX10_two_116 : decode cX10_two 116 = .ok (.iload_n 2, 1) := by decide +kernel
theorem dX10_two_117 : decode cX10_two 117 = .ok (.iload 5, 2) := by decide +kernel
theorem dX10_two_119 : decode cX10_two 119 = .ok (.iload 6, 2) := by decide +kernel
theorem dX10_two_121 : decode cX10_two 121 = .ok (.invokevirtual 274, 3) := by decide +kernel
theorem dX10_two_124 : decode cX10_two 124 = .ok (.aload_n 0, 1) := by decide +kernel
theorem dX10_two_125 : decode cX10_two 125 = .ok (.getfield 76, 3) := by decide +kernel
theorem dX10_two_128 : decode cX10_two 128 = .ok (.iload_n 1, 1) := by decide +kernel
theorem dX10_two_129 : decode cX10_two 129 = .ok (.iload_n 2, 1) := by decide +kernel
theorem dX10_two_130 : decode cX10_two 130 = .ok (.invokevirtual 278, 3) := by decide +kernel
theorem dX10_two_133 : decode cX10_two 133 = .ok (.istore 8, 2) := by decide +kernel
theorem dX10_two_135 : decode cX10_two 135 = .ok (.aload_n 0, 1) := by decide +kernel
theorem dX10_two_136 : decode cX10_two 136 = .ok (.getfield 76, 3) := by decide +kernel
theorem dX10_two_139 : decode cX10_two 139 = .ok (.iload_n 1, 1) := by decide +kernel
theorem dX10_two_140 : decode cX10_two 140 = .ok (.iload_n 2, 1) := by decide +kernel
theorem dX10_two_141 : decode cX10_two 141 = .ok (.invokevirtual 281, 3) := by decide +kernel
theorem dX10_two_144 : decode cX10_two 144 = .ok (.istore 9, 2) := by decide +kernel
theorem dX10_two_146 : decode cX10_two 146 = .ok (.iload 7, 2) := by decide +kernel
theorem dX10_two_148 : decode cX10_two 148 = .ok (.ifCond .ne 11, 3) := by decide +kernel
theorem dX10_two_151 : decode cX10_two 151 = .ok (.iload 8, 2) := by decide +kernel
theorem dX10_two_153 : decode cX10_two 153 = .ok (.iload 9, 2) := by decide +kernel
theorem dX10_two_155 : decode cX10_two 155 = .ok (.invokestatic 284, 3) := by decide +kernel
theorem dX10_two_158 : decode cX10_two 158 = .ok (.ireturn, 1) := by decide +kernel
theorem dX10_two_159 : decode cX10_two 159 = .ok (.iload 8, 2) := by decide +kernel
theorem dX10_two_161 : decode cX10_two 161 = .ok (.iload 9, 2) := by decide +kernel
theorem dX10_two_163 : decode cX10_two 163 = .ok (.if_icmp .lt 7, 3) := by decide +kernel
theorem dX10_two_166 : decode cX10_two 166 = .ok (.iconst 0, 1) := by decide +kernel
theorem dX10_two_167 : decode cX10_two 167 = .ok (.goto 4, 3) := by decide +kernel
theorem dX10_two_170 : decode cX10_two 170 = .ok (.iconst 1, 1) := by decide +kernel
theorem dX10_two_171 : decode cX10_two 171 = .ok (.ireturn, 1) := by decide +kernel
theorem dX10_lend_0 : decode cX10_lend 0 = .ok (.iload_n 1, 1) := by decide +kernel
theorem dX10_lend_1 : decode cX10_lend 1 = .ok (.iconst 0, 1) := by decide +kernel
theorem dX10_lend_2 : decode cX10_lend 2 = .ok (.sipush 999, 3) := by decide +kernel
theorem dX10_lend_5 : decode cX10_lend 5 = .ok (.invokestatic 206, 3) := by decide +kernel
theorem dX10_lend_8 : decode cX10_lend 8 = .ok (.ifCond .eq 24, 3) := by decide +kernel
theorem dX10_lend_11 : decode cX10_lend 11 = .ok (.iload_n 2, 1) := by decide +kernel
theorem dX10_lend_12 : decode cX10_lend 12 = .ok (.iconst 0, 1) := by decide +kernel
theorem dX10_lend_13 : decode cX10_lend 13 = .ok (.bipush 52, 2) := by decide +kernel
theorem dX10_lend_15 : decode cX10_lend 15 = .ok (.invokestatic 206, 3) := by decide +kernel
theorem dX10_lend_18 : decode cX10_lend 18 = .ok (.ifCond .eq 14, 3) := by decide +kernel
theorem dX10_lend_21 : decode cX10_lend 21 = .ok (.iload_n 3, 1) := by decide +kernel
theorem dX10_lend_22 : decode cX10_lend 22 = .ok (.iconst 0, 1) := by decide +kernel
theorem dX10_lend_23 : decode cX10_lend 23 = .ok (.sipush 1000, 3) := by decide +kernel
theorem dX10_lend_26 : decode cX10_lend 26 = .ok (.invokestatic 206, 3) := by decide +kernel
theorem dX10_lend_29 : decode cX10_lend 29 = .ok (.ifCond .ne 6, 3) := by decide +kernel
theorem dX10_lend_32 : decode cX10_lend 32 = .ok (.bipush (-2), 2) := by decide +kernel
theorem dX10_lend_34 : decode cX10_lend 34 = .ok (.ireturn, 1) := by decide +kernel
theorem dX10_lend_35 : decode cX10_lend 35 = .ok (.iload 4, 2) := by decide +kernel
theorem dX10_lend_37 : decode cX10_lend 37 = .ok (.ifCond .eq 12, 3) := by decide +kernel
theorem dX10_lend_40 : decode cX10_lend 40 = .ok (.iload 4, 2) := by decide +kernel
theorem dX10_lend_42 : decode cX10_lend 42 = .ok (.iconst 1, 1) := by decide +kernel
theorem dX10_lend_43 : decode cX10_lend 43 = .ok (.if_icmp .eq 6, 3) := by decide +kernel
theorem dX10_lend_46 : decode cX10_lend 46 = .ok (.bipush (-2), 2) := by decide +kernel
theorem dX10_lend_48 : decode cX10_lend 48 = .ok (.ireturn, 1) := by decide +kernel
theorem dX10_lend_49 : decode cX10_lend 49 = .ok (.iload_n 1, 1) := by decide +kernel
theorem dX10_lend_50 : decode cX10_lend 50 = .ok (.istore 5, 2) := by decide +kernel
theorem dX10_lend_52 : decode cX10_lend 52 = .ok (.iconst 0, 1) := by decide +kernel
theorem dX10_lend_53 : decode cX10_lend 53 = .ok (.istore 6, 2) := by decide +kernel
theorem dX10_lend_55 : decode cX10_lend 55 = .ok (.iload 6, 2) := by decide +kernel
theorem dX10_lend_57 : decode cX10_lend 57 = .ok (.iload_n 2, 1) := by decide +kernel
theorem dX10_lend_58 : decode cX10_lend 58 = .ok (.if_icmp .ge 40, 3) := by decide +kernel
theorem dX10_lend_61 : decode cX10_lend 61 = .ok (.iload 4, 2) := by decide +kernel
theorem dX10_lend_63 : decode cX10_lend 63 = .ok (.ifCond .ne 18, 3) := by decide +kernel
theorem dX10_lend_66 : decode cX10_lend 66 = .ok (.iload 5, 2) := by decide +kernel
theorem dX10_lend_68 : decode cX10_lend 68 = .ok (.sipush 1000, 3) := by decide +kernel
theorem dX10_lend_71 : decode cX10_lend 71 = .ok (.iload_n 3, 1) := by decide +kernel
theorem dX10_lend_72 : decode cX10_lend 72 = .ok (.isub, 1) := by decide +kernel
theorem dX10_lend_73 : decode cX10_lend 73 = .ok (.imul, 1) := by decide +kernel
theorem dX10_lend_74 : decode cX10_lend 74 = .ok (.sipush 1000, 3) := by decide +kernel
theorem dX10_lend_77 : decode cX10_lend 77 = .ok (.idiv, 1) := by decide +kernel
theorem dX10_lend_78 : decode cX10_lend 78 = .ok (.goto 12, 3) := by decide +kernel
theorem dX10_lend_81 : decode cX10_lend 81 = .ok (.aload_n 0, 1) := by decide +kernel
theorem dX10_lend_82 : decode cX10_lend 82 = .ok (.getfield 33, 3) := by decide +kernel
theorem dX10_lend_85 : decode cX10_lend 85 = .ok (.iload 5, 2) := by decide +kernel
theorem dX10_lend_87 : decode cX10_lend 87 = .ok (.invokevirtual 289, 3) := by decide +kernel
theorem dX10_lend_90 : decode cX10_lend 90 = .ok (.istore 5, 2) := by decide +kernel
theorem dX10_lend_92 : decode cX10_lend 92 = .ok (.iinc 6 1, 3) := by decide +kernel
theorem dX10_lend_95 : decode cX10_lend 95 = .ok (.goto (-40), 3) := by decide +kernel
theorem dX10_lend_98 : decode cX10_lend 98 = .ok (.iload 5, 2) := by decide +kernel
theorem dX10_lend_100 : decode cX10_lend 100 = .ok (.ireturn, 1) := by decide +kernel
theorem dX10_early_0 : decode cX10_early 0 = .ok (.iload_n 1, 1) := by decide +kernel
theorem dX10_early_1 : decode cX10_early 1 = .ok (.iconst 0, 1) := by decide +kernel
theorem dX10_early_2 : decode cX10_early 2 = .ok (.sipush 999, 3) := by decide +kernel
theorem dX10_early_5 : decode cX10_early 5 = .ok (.invokestatic 206, 3) := by decide +kernel
theorem dX10_early_8 : decode cX10_early 8 = .ok (.ifCond .eq 20, 3) := by decide +kernel
theorem dX10_early_11 : decode cX10_early 11 = .ok (.iload_n 2, 1) := by decide +kernel
theorem dX10_early_12 : decode cX10_early 12 = .ok (.iconst 0, 1) := by decide +kernel
theorem dX10_early_13 : decode cX10_early 13 = .ok (.bipush 60, 2) := by decide +kernel
theorem dX10_early_15 : decode cX10_early 15 = .ok (.invokestatic 206, 3) := by decide +kernel
theorem dX10_early_18 : decode cX10_early 18 = .ok (.ifCond .eq 10, 3) := by decide +kernel
theorem dX10_early_21 : decode cX10_early 21 = .ok (.iload_n 3, 1) := by decide +kernel
theorem dX10_early_22 : decode cX10_early 22 = .ok (.invokestatic 156, 3) := by decide +kernel
theorem dX10_early_25 : decode cX10_early 25 = .ok (.ifCond .ne 6, 3) := by decide +kernel
theorem dX10_early_28 : decode cX10_early 28 = .ok (.bipush (-2), 2) := by decide +kernel
theorem dX10_early_30 : decode cX10_early 30 = .ok (.ireturn, 1) := by decide +kernel
theorem dX10_early_31 : decode cX10_early 31 = .ok (.iload_n 1, 1) := by decide +kernel
theorem dX10_early_32 : decode cX10_early 32 = .ok (.istore 4, 2) := by decide +kernel
theorem dX10_early_34 : decode cX10_early 34 = .ok (.iload_n 2, 1) := by decide +kernel
theorem dX10_early_35 : decode cX10_early 35 = .ok (.iconst 1, 1) := by decide +kernel
theorem dX10_early_36 : decode cX10_early 36 = .ok (.isub, 1) := by decide +kernel
theorem dX10_early_37 : decode cX10_early 37 = .ok (.istore 5, 2) := by decide +kernel
theorem dX10_early_39 : decode cX10_early 39 = .ok (.iload 5, 2) := by decide +kernel
theorem dX10_early_41 : decode cX10_early 41 = .ok (.ifCond .lt 37, 3) := by decide +kernel
theorem dX10_early_44 : decode cX10_early 44 = .ok (.aload_n 0, 1) := by decide +kernel
theorem dX10_early_45 : decode cX10_early 45 = .ok (.getfield 33, 3) := by decide +kernel
theorem dX10_early_48 : decode cX10_early 48 = .ok (.iload 4, 2) := by decide +kernel
theorem dX10_early_50 : decode cX10_early 50 = .ok (.iload_n 3, 1) := by decide +kernel
theorem dX10_early_51 : decode cX10_early 51 = .ok (.iload 5, 2) := by decide +kernel
theorem dX10_early_53 : decode cX10_early 53 = .ok (.iadd, 1) := by decide +kernel
theorem dX10_early_54 : decode cX10_early 54 = .ok (.bipush 7, 2) := by decide +kernel
theorem dX10_early_56 : decode cX10_early 56 = .ok (.irem, 1) := by decide +kernel
theorem dX10_early_57 : decode cX10_early 57 = .ok (.invokevirtual 293, 3) := by decide +kernel
theorem dX10_early_60 : decode cX10_early 60 = .ok (.istore 4, 2) := by decide +kernel
theorem dX10_early_62 : decode cX10_early 62 = .ok (.iload 4, 2) := by decide +kernel
theorem dX10_early_64 : decode cX10_early 64 = .ok (.sipush 999, 3) := by decide +kernel
theorem dX10_early_67 : decode cX10_early 67 = .ok (.if_icmp .le 5, 3) := by decide +kernel
theorem dX10_early_70 : decode cX10_early 70 = .ok (.iconst (-1), 1) := by decide +kernel
theorem dX10_early_71 : decode cX10_early 71 = .ok (.ireturn, 1) := by decide +kernel
theorem dX10_early_72 : decode cX10_early 72 = .ok (.iinc 5 (-1), 3) := by decide +kernel
theorem dX10_early_75 : decode cX10_early 75 = .ok (.goto (-36), 3) := by decide +kernel
theorem dX10_early_78 : decode cX10_early 78 = .ok (.iload 4, 2) := by decide +kernel
theorem dX10_early_80 : decode cX10_early 80 = .ok (.ireturn, 1) := by decide +kernel
theorem dX10_values_0 : decode cX10_values 0 = .ok (.aload_n 0, 1) := by decide +kernel
theorem dX10_values_1 : decode cX10_values 1 = .ok (.getfield 21, 3) := by decide +kernel
theorem dX10_values_4 : decode cX10_values 4 = .ok (.aload_n 0, 1) := by decide +kernel
theorem dX10_values_5 : decode cX10_values 5 = .ok (.getfield 33, 3) := by decide +kernel
theorem dX10_values_8 : decode cX10_values 8 = .ok (.getfield 102, 3) := by decide +kernel
theorem dX10_values_11 : decode cX10_values 11 = .ok (.aload_n 0, 1) := by decide +kernel
theorem dX10_values_12 : decode cX10_values 12 = .ok (.getfield 83, 3) := by decide +kernel
theorem dX10_values_15 : decode cX10_values 15 = .ok (.getfield 296, 3) := by decide +kernel
theorem dX10_values_18 : decode cX10_values 18 = .ok (.invokevirtual 299, 3) := by decide +kernel
theorem dX10_values_21 : decode cX10_values 21 = .ok (.istore_n 1, 1) := by decide +kernel
theorem dX10_values_22 : decode cX10_values 22 = .ok (.aload_n 0, 1) := by decide +kernel
theorem dX10_values_23 : decode cX10_values 23 = .ok (.getfield 12, 3) := by decide +kernel
theorem dX10_values_26 : decode cX10_values 26 = .ok (.iconst 0, 1) := by decide +kernel
theorem dX10_values_27 : decode cX10_values 27 = .ok (.putfield 90, 3) := by decide +kernel
theorem dX10_values_30 : decode cX10_values 30 = .ok (.iload_n 1, 1) := by decide +kernel
theorem dX10_values_31 : decode cX10_values 31 = .ok (.ifCond .ne 5, 3) := by decide +kernel
theorem dX10_values_34 : decode cX10_values 34 = .ok (.iconst (-1), 1) := by decide +kernel
theorem dX10_values_35 : decode cX10_values 35 = .ok (.ireturn, 1) := by decide +kernel
theorem dX10_values_36 : decode cX10_values 36 = .ok (.aload_n 0, 1) := by decide +kernel
theorem dX10_values_37 : decode cX10_values 37 = .ok (.getfield 83, 3) := by decide +kernel
theorem dX10_values_40 : decode cX10_values 40 = .ok (.invokevirtual 303, 3) := by decide +kernel
theorem dX10_values_43 : decode cX10_values 43 = .ok (.iconst 1, 1) := by decide +kernel
theorem dX10_values_44 : decode cX10_values 44 = .ok (.ireturn, 1) := by decide +kernel
theorem dX10_meet_0 : decode cX10_meet 0 = .ok (.aload_n 0, 1) := by decide +kernel
theorem dX10_meet_1 : decode cX10_meet 1 = .ok (.iload_n 1, 1) := by decide +kernel
theorem dX10_meet_2 : decode cX10_meet 2 = .ok (.invokevirtual 152, 3) := by decide +kernel
theorem dX10_meet_5 : decode cX10_meet 5 = .ok (.ifCond .eq 34, 3) := by decide +kernel
theorem dX10_meet_8 : decode cX10_meet 8 = .ok (.iload_n 2, 1) := by decide +kernel
theorem dX10_meet_9 : decode cX10_meet 9 = .ok (.ifCond .lt 30, 3) := by decide +kernel
theorem dX10_meet_12 : decode cX10_meet 12 = .ok (.iload_n 2, 1) := by decide +kernel
theorem dX10_meet_13 : decode cX10_meet 13 = .ok (.iconst 1, 1) := by decide +kernel
theorem dX10_meet_14 : decode cX10_meet 14 = .ok (.aload_n 0, 1) := by decide +kernel
theorem dX10_meet_15 : decode cX10_meet 15 = .ok (.getfield 33, 3) := by decide +kernel
theorem dX10_meet_18 : decode cX10_meet 18 = .ok (.getfield 102, 3) := by decide +kernel
theorem dX10_meet_21 : decode cX10_meet 21 = .ok (.getfield 114, 3) := by decide +kernel
theorem dX10_meet_24 : decode cX10_meet 24 = .ok (.ishl, 1) := by decide +kernel
theorem dX10_meet_25 : decode cX10_meet 25 = .ok (.if_icmp .ge 14, 3) := by decide +kernel
theorem dX10_meet_28 : decode cX10_meet 28 = .ok (.iload_n 3, 1) := by decide +kernel
theorem dX10_meet_29 : decode cX10_meet 29 = .ok (.iload 4, 2) := by decide +kernel
theorem dX10_meet_31 : decode cX10_meet 31 = .ok (.iload 5, 2) := by decide +kernel
theorem dX10_meet_33 : decode cX10_meet 33 = .ok (.invokestatic 306, 3) := by decide +kernel
theorem dX10_meet_36 : decode cX10_meet 36 = .ok (.ifCond .ne 7, 3) := by decide +kernel
theorem dX10_meet_39 : decode cX10_meet 39 = .ok (.ldc_w 309, 3) := by decide +kernel
theorem dX10_meet_42 : decode cX10_meet 42 = .ok (.ireturn, 1) := by decide +kernel
theorem dX10_meet_43 : decode cX10_meet 43 = .ok (.iload 6, 2) := by decide +kernel
theorem dX10_meet_45 : decode cX10_meet 45 = .ok (.ifCond .eq 13, 3) := by decide +kernel
theorem dX10_meet_48 : decode cX10_meet 48 = .ok (.iload 6, 2) := by decide +kernel
theorem dX10_meet_50 : decode cX10_meet 50 = .ok (.iconst 1, 1) := by decide +kernel
theorem dX10_meet_51 : decode cX10_meet 51 = .ok (.if_icmp .eq 7, 3) := by decide +kernel
theorem dX10_meet_54 : decode cX10_meet 54 = .ok (.ldc_w 309, 3) := by decide +kernel
theorem dX10_meet_57 : decode cX10_meet 57 = .ok (.ireturn, 1) := by decide +kernel
theorem dX10_meet_58 : decode cX10_meet 58 = .ok (.aload_n 0, 1) := by decide +kernel
theorem dX10_meet_59 : decode cX10_meet 59 = .ok (.getfield 83, 3) := by decide +kernel
theorem dX10_meet_62 : decode cX10_meet 62 = .ok (.aload_n 0, 1) := by decide +kernel
theorem dX10_meet_63 : decode cX10_meet 63 = .ok (.getfield 33, 3) := by decide +kernel
theorem dX10_meet_66 : decode cX10_meet 66 = .ok (.getfield 102, 3) := by decide +kernel
theorem dX10_meet_69 : decode cX10_meet 69 = .ok (.iload_n 2, 1) := by decide +kernel
theorem dX10_meet_70 : decode cX10_meet 70 = .ok (.iload_n 3, 1) := by decide +kernel
theorem dX10_meet_71 : decode cX10_meet 71 = .ok (.invokevirtual 310, 3) := by decide +kernel
theorem dX10_meet_74 : decode cX10_meet 74 = .ok (.aload_n 0, 1) := by decide +kernel
theorem dX10_meet_75 : decode cX10_meet 75 = .ok (.getfield 83, 3) := by decide +kernel
theorem dX10_meet_78 : decode cX10_meet 78 = .ok (.iload_n 1, 1) := by decide +kernel
theorem dX10_meet_79 : decode cX10_meet 79 = .ok (.iload 4, 2) := by decide +kernel
theorem dX10_meet_81 : decode cX10_meet 81 = .ok (.iload 5, 2) := by decide +kernel
theorem dX10_meet_83 : decode cX10_meet 83 = .ok (.invokevirtual 314, 3) := by decide +kernel
theorem dX10_meet_86 : decode cX10_meet 86 = .ok (.iload 6, 2) := by decide +kernel
theorem dX10_meet_88 : decode cX10_meet 88 = .ok (.ifCond .ne 13, 3) := by decide +kernel
theorem dX10_meet_91 : decode cX10_meet 91 = .ok (.aload_n 0, 1) := by decide +kernel
theorem dX10_meet_92 : decode cX10_meet 92 = .ok (.getfield 83, 3) := by decide +kernel
theorem dX10_meet_95 : decode cX10_meet 95 = .ok (.getfield 318, 3) := by decide +kernel
theorem dX10_meet_98 : decode cX10_meet 98 = .ok (.goto 10, 3) := by decide +kernel
theorem dX10_meet_101 : decode cX10_meet 101 = .ok (.aload_n 0, 1) := by decide +kernel
theorem dX10_meet_102 : decode cX10_meet 102 = .ok (.getfield 83, 3) := by decide +kernel
theorem dX10_meet_105 : decode cX10_meet 105 = .ok (.getfield 322, 3) := by decide +kernel
theorem dX10_meet_108 : decode cX10_meet 108 = .ok (.l2i, 1) := by decide +kernel
theorem dX10_meet_109 : decode cX10_meet 109 = .ok (.ireturn, 1) := by decide +kernel
theorem dX10_rests_0 : decode cX10_rests 0 = .ok (.iload_n 1, 1) := by decide +kernel
theorem dX10_rests_1 : decode cX10_rests 1 = .ok (.iload_n 2, 1) := by decide +kernel
theorem dX10_rests_2 : decode cX10_rests 2 = .ok (.iload_n 3, 1) := by decide +kernel
theorem dX10_rests_3 : decode cX10_rests 3 = .ok (.invokestatic 306, 3) := by decide +kernel
theorem dX10_rests_6 : decode cX10_rests 6 = .ok (.ifCond .ne 6, 3) := by decide +kernel
theorem dX10_rests_9 : decode cX10_rests 9 = .ok (.bipush (-2), 2) := by decide +kernel
theorem dX10_rests_11 : decode cX10_rests 11 = .ok (.ireturn, 1) := by decide +kernel
theorem dX10_rests_12 : decode cX10_rests 12 = .ok (.iconst 1, 1) := by decide +kernel
theorem dX10_rests_13 : decode cX10_rests 13 = .ok (.aload_n 0, 1) := by decide +kernel
theorem dX10_rests_14 : decode cX10_rests 14 = .ok (.getfield 33, 3) := by decide +kernel
theorem dX10_rests_17 : decode cX10_rests 17 = .ok (.getfield 102, 3) := by decide +kernel
theorem dX10_rests_20 : decode cX10_rests 20 = .ok (.getfield 114, 3) := by decide +kernel
theorem dX10_rests_23 : decode cX10_rests 23 = .ok (.ishl, 1) := by decide +kernel
theorem dX10_rests_24 : decode cX10_rests 24 = .ok (.istore 4, 2) := by decide +kernel
theorem dX10_rests_26 : decode cX10_rests 26 = .ok (.iconst 0, 1) := by decide +kernel
theorem dX10_rests_27 : decode cX10_rests 27 = .ok (.istore 5, 2) := by decide +kernel
theorem dX10_rests_29 : decode cX10_rests 29 = .ok (.iconst 0, 1) := by decide +kernel
theorem dX10_rests_30 : decode cX10_rests 30 = .ok (.istore 6, 2) := by decide +kernel
theorem dX10_rests_32 : decode cX10_rests 32 = .ok (.iload 6, 2) := by decide +kernel
theorem dX10_rests_34 : decode cX10_rests 34 = .ok (.iload 4, 2) := by decide +kernel
theorem dX10_rests_36 : decode cX10_rests 36 = .ok (.if_icmp .ge 47, 3) := by decide +kernel
theorem dX10_rests_39 : decode cX10_rests 39 = .ok (.aload_n 0, 1) := by decide +kernel
theorem dX10_rests_40 : decode cX10_rests 40 = .ok (.getfield 83, 3) := by decide +kernel
theorem dX10_rests_43 : decode cX10_rests 43 = .ok (.aload_n 0, 1) := by decide +kernel
theorem dX10_rests_44 : decode cX10_rests 44 = .ok (.getfield 33, 3) := by decide +kernel
theorem dX10_rests_47 : decode cX10_rests 47 = .ok (.getfield 102, 3) := by decide +kernel
theorem dX10_rests_50 : decode cX10_rests 50 = .ok (.iload 6, 2) := by decide +kernel
theorem dX10_rests_52 : decode cX10_rests 52 = .ok (.iload_n 1, 1) := by decide +kernel
theorem dX10_rests_53 : decode cX10_rests 53 = .ok (.invokevirtual 310, 3) := by decide +kernel
theorem dX10_rests_56 : decode cX10_rests 56 = .ok (.aload_n 0, 1) := by decide +kernel
theorem dX10_rests_57 : decode cX10_rests 57 = .ok (.getfield 83, 3) := by decide +kernel
theorem dX10_rests_60 : decode cX10_rests 60 = .ok (.iload_n 2, 1) := by decide +kernel
theorem dX10_rests_61 : decode cX10_rests 61 = .ok (.iload_n 3, 1) := by decide +kernel
theorem dX10_rests_62 : decode cX10_rests 62 = .ok (.invokevirtual 325, 3) := by decide +kernel
theorem dX10_rests_65 : decode cX10_rests 65 = .ok (.ifCond .eq 12, 3) := by decide +kernel
theorem dX10_rests_68 : decode cX10_rests 68 = .ok (.iload 5, 2) := by decide +kernel
theorem dX10_rests_70 : decode cX10_rests 70 = .ok (.iconst 1, 1) := by decide +kernel
theorem dX10_rests_71 : decode cX10_rests 71 = .ok (.iload 6, 2) := by decide +kernel
theorem dX10_rests_73 : decode cX10_rests 73 = .ok (.ishl, 1) := by decide +kernel
theorem dX10_rests_74 : decode cX10_rests 74 = .ok (.ior, 1) := by decide +kernel
theorem dX10_rests_75 : decode cX10_rests 75 = .ok (.istore 5, 2) := by decide +kernel
theorem dX10_rests_77 : decode cX10_rests 77 = .ok (.iinc 6 1, 3) := by decide +kernel
theorem dX10_rests_80 : decode cX10_rests 80 = .ok (.goto (-48), 3) := by decide +kernel
theorem dX10_rests_83 : decode cX10_rests 83 = .ok (.iload 5, 2) := by decide +kernel
theorem dX10_rests_85 : decode cX10_rests 85 = .ok (.ireturn, 1) := by decide +kernel
theorem dX10_book_0 : decode cX10_book 0 = .ok (.aload_n 0, 1) := by decide +kernel
theorem dX10_book_1 : decode cX10_book 1 = .ok (.getfield 21, 3) := by decide +kernel
theorem dX10_book_4 : decode cX10_book 4 = .ok (.aload_n 0, 1) := by decide +kernel
theorem dX10_book_5 : decode cX10_book 5 = .ok (.getfield 33, 3) := by decide +kernel
theorem dX10_book_8 : decode cX10_book 8 = .ok (.getfield 102, 3) := by decide +kernel
theorem dX10_book_11 : decode cX10_book 11 = .ok (.invokevirtual 328, 3) := by decide +kernel
theorem dX10_book_14 : decode cX10_book 14 = .ok (.istore_n 1, 1) := by decide +kernel
theorem dX10_book_15 : decode cX10_book 15 = .ok (.aload_n 0, 1) := by decide +kernel
theorem dX10_book_16 : decode cX10_book 16 = .ok (.getfield 12, 3) := by decide +kernel
theorem dX10_book_19 : decode cX10_book 19 = .ok (.iconst 0, 1) := by decide +kernel
theorem dX10_book_20 : decode cX10_book 20 = .ok (.putfield 90, 3) := by decide +kernel
theorem dX10_book_23 : decode cX10_book 23 = .ok (.iload_n 1, 1) := by decide +kernel
theorem dX10_book_24 : decode cX10_book 24 = .ok (.ireturn, 1) := by decide +kernel
theorem dX10_count_0 : decode cX10_count 0 = .ok (.iload_n 1, 1) := by decide +kernel
theorem dX10_count_1 : decode cX10_count 1 = .ok (.ifCond .ne 16, 3) := by decide +kernel
theorem dX10_count_4 : decode cX10_count 4 = .ok (.aload_n 0, 1) := by decide +kernel
theorem dX10_count_5 : decode cX10_count 5 = .ok (.getfield 33, 3) := by decide +kernel
theorem dX10_count_8 : decode cX10_count 8 = .ok (.getfield 102, 3) := by decide +kernel
theorem dX10_count_11 : decode cX10_count 11 = .ok (.getfield 105, 3) := by decide +kernel
theorem dX10_count_14 : decode cX10_count 14 = .ok (.goto 19, 3) := by decide +kernel
theorem dX10_count_17 : decode cX10_count 17 = .ok (.iload_n 1, 1) := by decide +kernel
theorem dX10_count_18 : decode cX10_count 18 = .ok (.iconst 1, 1) := by decide +kernel
theorem dX10_count_19 : decode cX10_count 19 = .ok (.if_icmp .ne 13, 3) := by decide +kernel
theorem dX10_count_22 : decode cX10_count 22 = .ok (.aload_n 0, 1) := by decide +kernel
theorem dX10_count_23 : decode cX10_count 23 = .ok (.getfield 12, 3) := by decide +kernel
theorem dX10_count_26 : decode cX10_count 26 = .ok (.getfield 90, 3) := by decide +kernel
theorem dX10_count_29 : decode cX10_count 29 = .ok (.goto 4, 3) := by decide +kernel
theorem dX10_count_32 : decode cX10_count 32 = .ok (.iconst (-1), 1) := by decide +kernel
theorem dX10_count_33 : decode cX10_count 33 = .ok (.ireturn, 1) := by decide +kernel
theorem dX10_settle_0 : decode cX10_settle 0 = .ok (.aload_n 0, 1) := by decide +kernel
theorem dX10_settle_1 : decode cX10_settle 1 = .ok (.getfield 33, 3) := by decide +kernel
theorem dX10_settle_4 : decode cX10_settle 4 = .ok (.invokevirtual 332, 3) := by decide +kernel
theorem dX10_settle_7 : decode cX10_settle 7 = .ok (.aload_n 0, 1) := by decide +kernel
theorem dX10_settle_8 : decode cX10_settle 8 = .ok (.getfield 62, 3) := by decide +kernel
theorem dX10_settle_11 : decode cX10_settle 11 = .ok (.aload_n 0, 1) := by decide +kernel
theorem dX10_settle_12 : decode cX10_settle 12 = .ok (.getfield 33, 3) := by decide +kernel
theorem dX10_settle_15 : decode cX10_settle 15 = .ok (.getfield 102, 3) := by decide +kernel
theorem dX10_settle_18 : decode cX10_settle 18 = .ok (.invokevirtual 246, 3) := by decide +kernel
theorem dX10_settle_21 : decode cX10_settle 21 = .ok (.aload_n 0, 1) := by decide +kernel
theorem dX10_settle_22 : decode cX10_settle 22 = .ok (.getfield 62, 3) := by decide +kernel
theorem dX10_settle_25 : decode cX10_settle 25 = .ok (.getfield 225, 3) := by decide +kernel
theorem dX10_settle_28 : decode cX10_settle 28 = .ok (.iconst 1, 1) := by decide +kernel
theorem dX10_settle_29 : decode cX10_settle 29 = .ok (.invokestatic 335, 3) := by decide +kernel
theorem dX10_settle_32 : decode cX10_settle 32 = .ok (.iconst 0, 1) := by decide +kernel
theorem dX10_settle_33 : decode cX10_settle 33 = .ok (.istore_n 1, 1) := by decide +kernel
theorem dX10_settle_34 : decode cX10_settle 34 = .ok (.iload_n 1, 1) := by decide +kernel
theorem dX10_settle_35 : decode cX10_settle 35 = .ok (.iconst 3, 1) := by decide +kernel
theorem dX10_settle_36 : decode cX10_settle 36 = .ok (.if_icmp .ge 19, 3) := by decide +kernel
theorem dX10_settle_39 : decode cX10_settle 39 = .ok (.aload_n 0, 1) := by decide +kernel
theorem dX10_settle_40 : decode cX10_settle 40 = .ok (.getfield 69, 3) := by decide +kernel
theorem dX10_settle_43 : decode cX10_settle 43 = .ok (.iload_n 1, 1) := by decide +kernel
theorem dX10_settle_44 : decode cX10_settle 44 = .ok (.aaload, 1) := by decide +kernel
theorem dX10_settle_45 : decode cX10_settle 45 = .ok (.iconst (-1), 1) := by decide +kernel
theorem dX10_settle_46 : decode cX10_settle 46 = .ok (.putfield 232, 3) := by decide +kernel
theorem dX10_settle_49 : decode cX10_settle 49 = .ok (.iinc 1 1, 3) := by decide +kernel
theorem dX10_settle_52 : decode cX10_settle 52 = .ok (.goto (-18), 3) := by decide +kernel
theorem dX10_settle_55 : decode cX10_settle 55 = .ok (.aload_n 0, 1) := by decide +kernel
theorem dX10_settle_56 : decode cX10_settle 56 = .ok (.getfield 83, 3) := by decide +kernel
theorem dX10_settle_59 : decode cX10_settle 59 = .ok (.invokevirtual 341, 3) := by decide +kernel
theorem dX10_settle_62 : decode cX10_settle 62 = .ok (.aload_n 0, 1) := by decide +kernel
theorem dX10_settle_63 : decode cX10_settle 63 = .ok (.iconst (-1), 1) := by decide +kernel
theorem dX10_settle_64 : decode cX10_settle 64 = .ok (.putfield 263, 3) := by decide +kernel
theorem dX10_settle_67 : decode cX10_settle 67 = .ok (.return_, 1) := by decide +kernel
theorem dX10_worthOfAll_0 : decode cX10_worthOfAll 0 = .ok (.aload_n 0, 1) := by decide +kernel
theorem dX10_worthOfAll_1 : decode cX10_worthOfAll 1 = .ok (.getfield 66, 3) := by decide +kernel
theorem dX10_worthOfAll_4 : decode cX10_worthOfAll 4 = .ok (.aload_n 0, 1) := by decide +kernel
theorem dX10_worthOfAll_5 : decode cX10_worthOfAll 5 = .ok (.getfield 62, 3) := by decide +kernel
theorem dX10_worthOfAll_8 : decode cX10_worthOfAll 8 = .ok (.invokevirtual 249, 3) := by decide +kernel
theorem dX10_worthOfAll_11 : decode cX10_worthOfAll 11 = .ok (.aload_n 0, 1) := by decide +kernel
theorem dX10_worthOfAll_12 : decode cX10_worthOfAll 12 = .ok (.getfield 66, 3) := by decide +kernel
theorem dX10_worthOfAll_15 : decode cX10_worthOfAll 15 = .ok (.aload_n 0, 1) := by decide +kernel
theorem dX10_worthOfAll_16 : decode cX10_worthOfAll 16 = .ok (.getfield 33, 3) := by decide +kernel
theorem dX10_worthOfAll_19 : decode cX10_worthOfAll 19 = .ok (.getfield 102, 3) := by decide +kernel
theorem dX10_worthOfAll_22 : decode cX10_worthOfAll 22 = .ok (.invokevirtual 246, 3) := by decide +kernel
theorem dX10_worthOfAll_25 : decode cX10_worthOfAll 25 = .ok (.aload_n 0, 1) := by decide +kernel
theorem dX10_worthOfAll_26 : decode cX10_worthOfAll 26 = .ok (.getfield 33, 3) := by decide +kernel
theorem dX10_worthOfAll_29 : decode cX10_worthOfAll 29 = .ok (.iload_n 1, 1) := by decide +kernel
theorem dX10_worthOfAll_30 : decode cX10_worthOfAll 30 = .ok (.bipush 50, 2) := by decide +kernel
theorem dX10_worthOfAll_32 : decode cX10_worthOfAll 32 = .ok (.imul, 1) := by decide +kernel
theorem dX10_worthOfAll_33 : decode cX10_worthOfAll 33 = .ok (.invokevirtual 344, 3) := by decide +kernel
theorem dX10_worthOfAll_36 : decode cX10_worthOfAll 36 = .ok (.iconst 0, 1) := by decide +kernel
theorem dX10_worthOfAll_37 : decode cX10_worthOfAll 37 = .ok (.istore_n 3, 1) := by decide +kernel
theorem dX10_worthOfAll_38 : decode cX10_worthOfAll 38 = .ok (.iload_n 3, 1) := by decide +kernel
theorem dX10_worthOfAll_39 : decode cX10_worthOfAll 39 = .ok (.iload_n 2, 1) := by decide +kernel
theorem dX10_worthOfAll_40 : decode cX10_worthOfAll 40 = .ok (.bipush 7, 2) := by decide +kernel
theorem dX10_worthOfAll_42 : decode cX10_worthOfAll 42 = .ok (.imul, 1) := by decide +kernel
theorem dX10_worthOfAll_43 : decode cX10_worthOfAll 43 = .ok (.if_icmp .ge 21, 3) := by decide +kernel
theorem dX10_worthOfAll_46 : decode cX10_worthOfAll 46 = .ok (.aload_n 0, 1) := by decide +kernel
theorem dX10_worthOfAll_47 : decode cX10_worthOfAll 47 = .ok (.getfield 55, 3) := by decide +kernel
theorem dX10_worthOfAll_50 : decode cX10_worthOfAll 50 = .ok (.aload_n 0, 1) := by decide +kernel
theorem dX10_worthOfAll_51 : decode cX10_worthOfAll 51 = .ok (.getfield 66, 3) := by decide +kernel
theorem dX10_worthOfAll_54 : decode cX10_worthOfAll 54 = .ok (.iconst 1, 1) := by decide +kernel
theorem dX10_worthOfAll_55 : decode cX10_worthOfAll 55 = .ok (.invokevirtual 228, 3) := by decide +kernel
theorem dX10_worthOfAll_58 : decode cX10_worthOfAll 58 = .ok (.iinc 3 1, 3) := by decide +kernel
theorem dX10_worthOfAll_61 : decode cX10_worthOfAll 61 = .ok (.goto (-23), 3) := by decide +kernel
theorem dX10_worthOfAll_64 : decode cX10_worthOfAll 64 = .ok (.aload_n 0, 1) := by decide +kernel
theorem dX10_worthOfAll_65 : decode cX10_worthOfAll 65 = .ok (.getfield 33, 3) := by decide +kernel
theorem dX10_worthOfAll_68 : decode cX10_worthOfAll 68 = .ok (.invokevirtual 347, 3) := by decide +kernel
theorem dX10_worthOfAll_71 : decode cX10_worthOfAll 71 = .ok (.aload_n 0, 1) := by decide +kernel
theorem dX10_worthOfAll_72 : decode cX10_worthOfAll 72 = .ok (.getfield 66, 3) := by decide +kernel
theorem dX10_worthOfAll_75 : decode cX10_worthOfAll 75 = .ok (.iconst 4, 1) := by decide +kernel
theorem dX10_worthOfAll_76 : decode cX10_worthOfAll 76 = .ok (.invokevirtual 350, 3) := by decide +kernel
theorem dX10_worthOfAll_79 : decode cX10_worthOfAll 79 = .ok (.ireturn, 1) := by decide +kernel
theorem dX10_turnChanges_0 : decode cX10_turnChanges 0 = .ok (.aload_n 0, 1) := by decide +kernel
theorem dX10_turnChanges_1 : decode cX10_turnChanges 1 = .ok (.getfield 66, 3) := by decide +kernel
theorem dX10_turnChanges_4 : decode cX10_turnChanges 4 = .ok (.aload_n 0, 1) := by decide +kernel
theorem dX10_turnChanges_5 : decode cX10_turnChanges 5 = .ok (.getfield 62, 3) := by decide +kernel
theorem dX10_turnChanges_8 : decode cX10_turnChanges 8 = .ok (.invokevirtual 249, 3) := by decide +kernel
theorem dX10_turnChanges_11 : decode cX10_turnChanges 11 = .ok (.aload_n 0, 1) := by decide +kernel
theorem dX10_turnChanges_12 : decode cX10_turnChanges 12 = .ok (.getfield 66, 3) := by decide +kernel
theorem dX10_turnChanges_15 : decode cX10_turnChanges 15 = .ok (.aload_n 0, 1) := by decide +kernel
theorem dX10_turnChanges_16 : decode cX10_turnChanges 16 = .ok (.getfield 33, 3) := by decide +kernel
theorem dX10_turnChanges_19 : decode cX10_turnChanges 19 = .ok (.getfield 102, 3) := by decide +kernel
theorem dX10_turnChanges_22 : decode cX10_turnChanges 22 = .ok (.invokevirtual 246, 3) := by decide +kernel
theorem dX10_turnChanges_25 : decode cX10_turnChanges 25 = .ok (.aload_n 0, 1) := by decide +kernel
theorem dX10_turnChanges_26 : decode cX10_turnChanges 26 = .ok (.getfield 55, 3) := by decide +kernel
theorem dX10_turnChanges_29 : decode cX10_turnChanges 29 = .ok (.getfield 353, 3) := by decide +kernel
theorem dX10_turnChanges_32 : decode cX10_turnChanges 32 = .ok (.iconst 0, 1) := by decide +kernel
theorem dX10_turnChanges_33 : decode cX10_turnChanges 33 = .ok (.invokestatic 335, 3) := by decide +kernel
theorem dX10_turnChanges_36 : decode cX10_turnChanges 36 = .ok (.iconst 0, 1) := by decide +kernel
theorem dX10_turnChanges_37 : decode cX10_turnChanges 37 = .ok (.istore_n 1, 1) := by decide +kernel
theorem dX10_turnChanges_38 : decode cX10_turnChanges 38 = .ok (.iload_n 1, 1) := by decide +kernel
theorem dX10_turnChanges_39 : decode cX10_turnChanges 39 = .ok (.bipush 7, 2) := by decide +kernel
theorem dX10_turnChanges_41 : decode cX10_turnChanges 41 = .ok (.if_icmp .ge 21, 3) := by decide +kernel
theorem dX10_turnChanges_44 : decode cX10_turnChanges 44 = .ok (.aload_n 0, 1) := by decide +kernel
theorem dX10_turnChanges_45 : decode cX10_turnChanges 45 = .ok (.getfield 55, 3) := by decide +kernel
theorem dX10_turnChanges_48 : decode cX10_turnChanges 48 = .ok (.aload_n 0, 1) := by decide +kernel
theorem dX10_turnChanges_49 : decode cX10_turnChanges 49 = .ok (.getfield 66, 3) := by decide +kernel
theorem dX10_turnChanges_52 : decode cX10_turnChanges 52 = .ok (.iconst 0, 1) := by decide +kernel
theorem dX10_turnChanges_53 : decode cX10_turnChanges 53 = .ok (.invokevirtual 228, 3) := by decide +kernel
theorem dX10_turnChanges_56 : decode cX10_turnChanges 56 = .ok (.iinc 1 1, 3) := by decide +kernel
theorem dX10_turnChanges_59 : decode cX10_turnChanges 59 = .ok (.goto (-21), 3) := by decide +kernel
theorem dX10_turnChanges_62 : decode cX10_turnChanges 62 = .ok (.aload_n 0, 1) := by decide +kernel
theorem dX10_turnChanges_63 : decode cX10_turnChanges 63 = .ok (.getfield 33, 3) := by decide +kernel
theorem dX10_turnChanges_66 : decode cX10_turnChanges 66 = .ok (.aload_n 0, 1) := by decide +kernel
theorem dX10_turnChanges_67 : decode cX10_turnChanges 67 = .ok (.getfield 55, 3) := by decide +kernel
theorem dX10_turnChanges_70 : decode cX10_turnChanges 70 = .ok (.getfield 353, 3) := by decide +kernel
theorem dX10_turnChanges_73 : decode cX10_turnChanges 73 = .ok (.invokevirtual 356, 3) := by decide +kernel
theorem dX10_turnChanges_76 : decode cX10_turnChanges 76 = .ok (.ireturn, 1) := by decide +kernel
theorem dX10_isSort_0 : decode cX10_isSort 0 = .ok (.iload_n 1, 1) := by decide +kernel
theorem dX10_isSort_1 : decode cX10_isSort 1 = .ok (.ifCond .lt 21, 3) := by decide +kernel
theorem dX10_isSort_4 : decode cX10_isSort 4 = .ok (.iload_n 1, 1) := by decide +kernel
theorem dX10_isSort_5 : decode cX10_isSort 5 = .ok (.aload_n 0, 1) := by decide +kernel
theorem dX10_isSort_6 : decode cX10_isSort 6 = .ok (.getfield 33, 3) := by decide +kernel
theorem dX10_isSort_9 : decode cX10_isSort 9 = .ok (.getfield 102, 3) := by decide +kernel
theorem dX10_isSort_12 : decode cX10_isSort 12 = .ok (.getfield 114, 3) := by decide +kernel
theorem dX10_isSort_15 : decode cX10_isSort 15 = .ok (.if_icmp .ge 7, 3) := by decide +kernel
theorem dX10_isSort_18 : decode cX10_isSort 18 = .ok (.iconst 1, 1) := by decide +kernel
theorem dX10_isSort_19 : decode cX10_isSort 19 = .ok (.goto 4, 3) := by decide +kernel
theorem dX10_isSort_22 : decode cX10_isSort 22 = .ok (.iconst 0, 1) := by decide +kernel
theorem dX10_isSort_23 : decode cX10_isSort 23 = .ok (.ireturn, 1) := by decide +kernel
theorem dX10_isThing_0 : decode cX10_isThing 0 = .ok (.iload_n 1, 1) := by decide +kernel
theorem dX10_isThing_1 : decode cX10_isThing 1 = .ok (.ifCond .lt 21, 3) := by decide +kernel
theorem dX10_isThing_4 : decode cX10_isThing 4 = .ok (.iload_n 1, 1) := by decide +kernel
theorem dX10_isThing_5 : decode cX10_isThing 5 = .ok (.aload_n 0, 1) := by decide +kernel
theorem dX10_isThing_6 : decode cX10_isThing 6 = .ok (.getfield 33, 3) := by decide +kernel
theorem dX10_isThing_9 : decode cX10_isThing 9 = .ok (.getfield 102, 3) := by decide +kernel
theorem dX10_isThing_12 : decode cX10_isThing 12 = .ok (.getfield 117, 3) := by decide +kernel
theorem dX10_isThing_15 : decode cX10_isThing 15 = .ok (.if_icmp .ge 7, 3) := by decide +kernel
theorem dX10_isThing_18 : decode cX10_isThing 18 = .ok (.iconst 1, 1) := by decide +kernel
theorem dX10_isThing_19 : decode cX10_isThing 19 = .ok (.goto 4, 3) := by decide +kernel
theorem dX10_isThing_22 : decode cX10_isThing 22 = .ok (.iconst 0, 1) := by decide +kernel
theorem dX10_isThing_23 : decode cX10_isThing 23 = .ok (.ireturn, 1) := by decide +kernel
theorem dX10_isPerson_0 : decode cX10_isPerson 0 = .ok (.aload_n 0, 1) := by decide +kernel
theorem dX10_isPerson_1 : decode cX10_isPerson 1 = .ok (.iload_n 1, 1) := by decide +kernel
theorem dX10_isPerson_2 : decode cX10_isPerson 2 = .ok (.invokevirtual 152, 3) := by decide +kernel
theorem dX10_isPerson_5 : decode cX10_isPerson 5 = .ok (.ifCond .eq 23, 3) := by decide +kernel
theorem dX10_isPerson_8 : decode cX10_isPerson 8 = .ok (.iload_n 2, 1) := by decide +kernel
theorem dX10_isPerson_9 : decode cX10_isPerson 9 = .ok (.invokestatic 156, 3) := by decide +kernel
theorem dX10_isPerson_12 : decode cX10_isPerson 12 = .ok (.ifCond .eq 16, 3) := by decide +kernel
theorem dX10_isPerson_15 : decode cX10_isPerson 15 = .ok (.iload_n 3, 1) := by decide +kernel
theorem dX10_isPerson_16 : decode cX10_isPerson 16 = .ok (.iload 4, 2) := by decide +kernel
theorem dX10_isPerson_18 : decode cX10_isPerson 18 = .ok (.invokestatic 180, 3) := by decide +kernel
theorem dX10_isPerson_21 : decode cX10_isPerson 21 = .ok (.ifCond .eq 7, 3) := by decide +kernel
theorem dX10_isPerson_24 : decode cX10_isPerson 24 = .ok (.iconst 1, 1) := by decide +kernel
theorem dX10_isPerson_25 : decode cX10_isPerson 25 = .ok (.goto 4, 3) := by decide +kernel
theorem dX10_isPerson_28 : decode cX10_isPerson 28 = .ok (.iconst 0, 1) := by decide +kernel
theorem dX10_isPerson_29 : decode cX10_isPerson 29 = .ok (.ireturn, 1) := by decide +kernel
theorem dX10_isDay_0 : decode cX10_isDay 0 = .ok (.iload_n 0, 1) := by decide +kernel
theorem dX10_isDay_1 : decode cX10_isDay 1 = .ok (.ifCond .lt 13, 3) := by decide +kernel
theorem dX10_isDay_4 : decode cX10_isDay 4 = .ok (.iload_n 0, 1) := by decide +kernel
theorem dX10_isDay_5 : decode cX10_isDay 5 = .ok (.bipush 7, 2) := by decide +kernel
theorem dX10_isDay_7 : decode cX10_isDay 7 = .ok (.if_icmp .ge 7, 3) := by decide +kernel
theorem dX10_isDay_10 : decode cX10_isDay 10 = .ok (.iconst 1, 1) := by decide +kernel
theorem dX10_isDay_11 : decode cX10_isDay 11 = .ok (.goto 4, 3) := by decide +kernel
theorem dX10_isDay_14 : decode cX10_isDay 14 = .ok (.iconst 0, 1) := by decide +kernel
theorem dX10_isDay_15 : decode cX10_isDay 15 = .ok (.ireturn, 1) := by decide +kernel
theorem dX10_isHeld_0 : decode cX10_isHeld 0 = .ok (.iload_n 0, 1) := by decide +kernel
theorem dX10_isHeld_1 : decode cX10_isHeld 1 = .ok (.iconst 0, 1) := by decide +kernel
theorem dX10_isHeld_2 : decode cX10_isHeld 2 = .ok (.bipush 60, 2) := by decide +kernel
theorem dX10_isHeld_4 : decode cX10_isHeld 4 = .ok (.invokestatic 206, 3) := by decide +kernel
theorem dX10_isHeld_7 : decode cX10_isHeld 7 = .ok (.ifCond .eq 16, 3) := by decide +kernel
theorem dX10_isHeld_10 : decode cX10_isHeld 10 = .ok (.iload_n 1, 1) := by decide +kernel
theorem dX10_isHeld_11 : decode cX10_isHeld 11 = .ok (.iconst 0, 1) := by decide +kernel
theorem dX10_isHeld_12 : decode cX10_isHeld 12 = .ok (.iconst 5, 1) := by decide +kernel
theorem dX10_isHeld_13 : decode cX10_isHeld 13 = .ok (.invokestatic 206, 3) := by decide +kernel
theorem dX10_isHeld_16 : decode cX10_isHeld 16 = .ok (.ifCond .eq 7, 3) := by decide +kernel
theorem dX10_isHeld_19 : decode cX10_isHeld 19 = .ok (.iconst 1, 1) := by decide +kernel
theorem dX10_isHeld_20 : decode cX10_isHeld 20 = .ok (.goto 4, 3) := by decide +kernel
theorem dX10_isHeld_23 : decode cX10_isHeld 23 = .ok (.iconst 0, 1) := by decide +kernel
theorem dX10_isHeld_24 : decode cX10_isHeld 24 = .ok (.ireturn, 1) := by decide +kernel
theorem dX10_isWay_0 : decode cX10_isWay 0 = .ok (.iload_n 0, 1) := by decide +kernel
theorem dX10_isWay_1 : decode cX10_isWay 1 = .ok (.iconst 0, 1) := by decide +kernel
theorem dX10_isWay_2 : decode cX10_isWay 2 = .ok (.iconst 4, 1) := by decide +kernel
theorem dX10_isWay_3 : decode cX10_isWay 3 = .ok (.invokestatic 206, 3) := by decide +kernel
theorem dX10_isWay_6 : decode cX10_isWay 6 = .ok (.ireturn, 1) := by decide +kernel
theorem dX10_isWeeks_0 : decode cX10_isWeeks 0 = .ok (.iload_n 0, 1) := by decide +kernel
theorem dX10_isWeeks_1 : decode cX10_isWeeks 1 = .ok (.iconst 1, 1) := by decide +kernel
theorem dX10_isWeeks_2 : decode cX10_isWeeks 2 = .ok (.iconst 4, 1) := by decide +kernel
theorem dX10_isWeeks_3 : decode cX10_isWeeks 3 = .ok (.invokestatic 206, 3) := by decide +kernel
theorem dX10_isWeeks_6 : decode cX10_isWeeks 6 = .ok (.ireturn, 1) := by decide +kernel
theorem dX10_isMeeting_0 : decode cX10_isMeeting 0 = .ok (.iload_n 0, 1) := by decide +kernel
theorem dX10_isMeeting_1 : decode cX10_isMeeting 1 = .ok (.iconst 0, 1) := by decide +kernel
theorem dX10_isMeeting_2 : decode cX10_isMeeting 2 = .ok (.bipush 100, 2) := by decide +kernel
theorem dX10_isMeeting_4 : decode cX10_isMeeting 4 = .ok (.invokestatic 206, 3) := by decide +kernel
theorem dX10_isMeeting_7 : decode cX10_isMeeting 7 = .ok (.ifCond .eq 28, 3) := by decide +kernel
theorem dX10_isMeeting_10 : decode cX10_isMeeting 10 = .ok (.iload_n 1, 1) := by decide +kernel
theorem dX10_isMeeting_11 : decode cX10_isMeeting 11 = .ok (.iconst 0, 1) := by decide +kernel
theorem dX10_isMeeting_12 : decode cX10_isMeeting 12 = .ok (.sipush 900, 3) := by decide +kernel
theorem dX10_isMeeting_15 : decode cX10_isMeeting 15 = .ok (.invokestatic 206, 3) := by decide +kernel
theorem dX10_isMeeting_18 : decode cX10_isMeeting 18 = .ok (.ifCond .eq 17, 3) := by decide +kernel
theorem dX10_isMeeting_21 : decode cX10_isMeeting 21 = .ok (.iload_n 2, 1) := by decide +kernel
theorem dX10_isMeeting_22 : decode cX10_isMeeting 22 = .ok (.iconst 0, 1) := by decide +kernel
theorem dX10_isMeeting_23 : decode cX10_isMeeting 23 = .ok (.bipush 40, 2) := by decide +kernel
theorem dX10_isMeeting_25 : decode cX10_isMeeting 25 = .ok (.invokestatic 206, 3) := by decide +kernel
theorem dX10_isMeeting_28 : decode cX10_isMeeting 28 = .ok (.ifCond .eq 7, 3) := by decide +kernel
theorem dX10_isMeeting_31 : decode cX10_isMeeting 31 = .ok (.iconst 1, 1) := by decide +kernel
theorem dX10_isMeeting_32 : decode cX10_isMeeting 32 = .ok (.goto 4, 3) := by decide +kernel
theorem dX10_isMeeting_35 : decode cX10_isMeeting 35 = .ok (.iconst 0, 1) := by decide +kernel
theorem dX10_isMeeting_36 : decode cX10_isMeeting 36 = .ok (.ireturn, 1) := by decide +kernel
theorem dX10_within_0 : decode cX10_within 0 = .ok (.iload_n 0, 1) := by decide +kernel
theorem dX10_within_1 : decode cX10_within 1 = .ok (.iload_n 1, 1) := by decide +kernel
theorem dX10_within_2 : decode cX10_within 2 = .ok (.if_icmp .lt 12, 3) := by decide +kernel
theorem dX10_within_5 : decode cX10_within 5 = .ok (.iload_n 0, 1) := by decide +kernel
theorem dX10_within_6 : decode cX10_within 6 = .ok (.iload_n 2, 1) := by decide +kernel
theorem dX10_within_7 : decode cX10_within 7 = .ok (.if_icmp .gt 7, 3) := by decide +kernel
theorem dX10_within_10 : decode cX10_within 10 = .ok (.iconst 1, 1) := by decide +kernel
theorem dX10_within_11 : decode cX10_within 11 = .ok (.goto 4, 3) := by decide +kernel
theorem dX10_within_14 : decode cX10_within 14 = .ok (.iconst 0, 1) := by decide +kernel
theorem dX10_within_15 : decode cX10_within 15 = .ok (.ireturn, 1) := by decide +kernel
theorem dX10_affordable_0 : decode cX10_affordable 0 = .ok (.iload_n 1, 1) := by decide +kernel
theorem dX10_affordable_1 : decode cX10_affordable 1 = .ok (.iconst 1, 1) := by decide +kernel
theorem dX10_affordable_2 : decode cX10_affordable 2 = .ok (.if_icmp .ge 7, 3) := by decide +kernel
theorem dX10_affordable_5 : decode cX10_affordable 5 = .ok (.iconst 0, 1) := by decide +kernel
theorem dX10_affordable_6 : decode cX10_affordable 6 = .ok (.goto 6, 3) := by decide +kernel
theorem dX10_affordable_9 : decode cX10_affordable 9 = .ok (.iload_n 0, 1) := by decide +kernel
theorem dX10_affordable_10 : decode cX10_affordable 10 = .ok (.iload_n 1, 1) := by decide +kernel
theorem dX10_affordable_11 : decode cX10_affordable 11 = .ok (.idiv, 1) := by decide +kernel
theorem dX10_affordable_12 : decode cX10_affordable 12 = .ok (.ireturn, 1) := by decide +kernel
theorem dX10_stampsOf_0 : decode cX10_stampsOf 0 = .ok (.iload_n 0, 1) := by decide +kernel
theorem dX10_stampsOf_1 : decode cX10_stampsOf 1 = .ok (.iload_n 1, 1) := by decide +kernel
theorem dX10_stampsOf_2 : decode cX10_stampsOf 2 = .ok (.imul, 1) := by decide +kernel
theorem dX10_stampsOf_3 : decode cX10_stampsOf 3 = .ok (.sipush 999, 3) := by decide +kernel
theorem dX10_stampsOf_6 : decode cX10_stampsOf 6 = .ok (.iadd, 1) := by decide +kernel
theorem dX10_stampsOf_7 : decode cX10_stampsOf 7 = .ok (.sipush 1000, 3) := by decide +kernel
theorem dX10_stampsOf_10 : decode cX10_stampsOf 10 = .ok (.idiv, 1) := by decide +kernel
theorem dX10_stampsOf_11 : decode cX10_stampsOf 11 = .ok (.ireturn, 1) := by decide +kernel
theorem dX11_in_0 : decode cX11_in 0 = .ok (.lload_n 0, 1) := by decide +kernel
theorem dX11_in_1 : decode cX11_in 1 = .ok (.lload_n 2, 1) := by decide +kernel
theorem dX11_in_2 : decode cX11_in 2 = .ok (.lcmp, 1) := by decide +kernel
theorem dX11_in_3 : decode cX11_in 3 = .ok (.ifCond .lt 14, 3) := by decide +kernel
theorem dX11_in_6 : decode cX11_in 6 = .ok (.lload_n 0, 1) := by decide +kernel
theorem dX11_in_7 : decode cX11_in 7 = .ok (.lload 4, 2) := by decide +kernel
theorem dX11_in_9 : decode cX11_in 9 = .ok (.lcmp, 1) := by decide +kernel
theorem dX11_in_10 : decode cX11_in 10 = .ok (.ifCond .gt 7, 3) := by decide +kernel
theorem dX11_in_13 : decode cX11_in 13 = .ok (.iconst 1, 1) := by decide +kernel
theorem dX11_in_14 : decode cX11_in 14 = .ok (.goto 4, 3) := by decide +kernel
theorem dX11_in_17 : decode cX11_in 17 = .ok (.iconst 0, 1) := by decide +kernel
theorem dX11_in_18 : decode cX11_in 18 = .ok (.ireturn, 1) := by decide +kernel
theorem dX11_bad_0 : decode cX11_bad 0 = .ok (.aload_n 0, 1) := by decide +kernel
theorem dX11_bad_1 : decode cX11_bad 1 = .ok (.iload_n 1, 1) := by decide +kernel
theorem dX11_bad_2 : decode cX11_bad 2 = .ok (.putfield 3, 3) := by decide +kernel
theorem dX11_bad_5 : decode cX11_bad 5 = .ok (.aload_n 0, 1) := by decide +kernel
theorem dX11_bad_6 : decode cX11_bad 6 = .ok (.aload_n 0, 1) := by decide +kernel
theorem dX11_bad_7 : decode cX11_bad 7 = .ok (.getfield 7, 3) := by decide +kernel
theorem dX11_bad_10 : decode cX11_bad 10 = .ok (.putfield 10, 3) := by decide +kernel
theorem dX11_bad_13 : decode cX11_bad 13 = .ok (.iconst 0, 1) := by decide +kernel
theorem dX11_bad_14 : decode cX11_bad 14 = .ok (.ireturn, 1) := by decide +kernel
theorem dX11_byteAt_0 : decode cX11_byteAt 0 = .ok (.iload_n 1, 1) := by decide +kernel
theorem dX11_byteAt_1 : decode cX11_byteAt 1 = .ok (.aload_n 0, 1) := by decide +kernel
theorem dX11_byteAt_2 : decode cX11_byteAt 2 = .ok (.getfield 13, 3) := by decide +kernel
theorem dX11_byteAt_5 : decode cX11_byteAt 5 = .ok (.if_icmp .ge 16, 3) := by decide +kernel
theorem dX11_byteAt_8 : decode cX11_byteAt 8 = .ok (.aload_n 0, 1) := by decide +kernel
theorem dX11_byteAt_9 : decode cX11_byteAt 9 = .ok (.getfield 16, 3) := by decide +kernel
theorem dX11_byteAt_12 : decode cX11_byteAt 12 = .ok (.iload_n 1, 1) := by decide +kernel
theorem dX11_byteAt_13 : decode cX11_byteAt 13 = .ok (.baload, 1) := by decide +kernel
theorem dX11_byteAt_14 : decode cX11_byteAt 14 = .ok (.sipush 255, 3) := by decide +kernel
theorem dX11_byteAt_17 : decode cX11_byteAt 17 = .ok (.iand, 1) := by decide +kernel
theorem dX11_byteAt_18 : decode cX11_byteAt 18 = .ok (.goto 4, 3) := by decide +kernel
theorem dX11_byteAt_21 : decode cX11_byteAt 21 = .ok (.iconst 0, 1) := by decide +kernel
theorem dX11_byteAt_22 : decode cX11_byteAt 22 = .ok (.ireturn, 1) := by decide +kernel
theorem dX11_isSmall_0 : decode cX11_isSmall 0 = .ok (.iload_n 0, 1) := by decide +kernel
theorem dX11_isSmall_1 : decode cX11_isSmall 1 = .ok (.bipush 97, 2) := by decide +kernel
theorem dX11_isSmall_3 : decode cX11_isSmall 3 = .ok (.if_icmp .lt 13, 3) := by decide +kernel
theorem dX11_isSmall_6 : decode cX11_isSmall 6 = .ok (.iload_n 0, 1) := by decide +kernel
theorem dX11_isSmall_7 : decode cX11_isSmall 7 = .ok (.bipush 122, 2) := by decide +kernel
theorem dX11_isSmall_9 : decode cX11_isSmall 9 = .ok (.if_icmp .gt 7, 3) := by decide +kernel
theorem dX11_isSmall_12 : decode cX11_isSmall 12 = .ok (.iconst 1, 1) := by decide +kernel
theorem dX11_isSmall_13 : decode cX11_isSmall 13 = .ok (.goto 4, 3) := by decide +kernel
theorem dX11_isSmall_16 : decode cX11_isSmall 16 = .ok (.iconst 0, 1) := by decide +kernel
theorem dX11_isSmall_17 : decode cX11_isSmall 17 = .ok (.ireturn, 1) := by decide +kernel
theorem dX11_isDigit_0 : decode cX11_isDigit 0 = .ok (.iload_n 0, 1) := by decide +kernel
theorem dX11_isDigit_1 : decode cX11_isDigit 1 = .ok (.bipush 48, 2) := by decide +kernel
theorem dX11_isDigit_3 : decode cX11_isDigit 3 = .ok (.if_icmp .lt 13, 3) := by decide +kernel
theorem dX11_isDigit_6 : decode cX11_isDigit 6 = .ok (.iload_n 0, 1) := by decide +kernel
theorem dX11_isDigit_7 : decode cX11_isDigit 7 = .ok (.bipush 57, 2) := by decide +kernel
theorem dX11_isDigit_9 : decode cX11_isDigit 9 = .ok (.if_icmp .gt 7, 3) := by decide +kernel
theorem dX11_isDigit_12 : decode cX11_isDigit 12 = .ok (.iconst 1, 1) := by decide +kernel
theorem dX11_isDigit_13 : decode cX11_isDigit 13 = .ok (.goto 4, 3) := by decide +kernel
theorem dX11_isDigit_16 : decode cX11_isDigit 16 = .ok (.iconst 0, 1) := by decide +kernel
theorem dX11_isDigit_17 : decode cX11_isDigit 17 = .ok (.ireturn, 1) := by decide +kernel
theorem dX11_scan_0 : decode cX11_scan 0 = .ok (.aload_n 0, 1) := by decide +kernel
theorem dX11_scan_1 : decode cX11_scan 1 = .ok (.getfield 20, 3) := by decide +kernel
theorem dX11_scan_4 : decode cX11_scan 4 = .ok (.aload_n 0, 1) := by decide +kernel
theorem dX11_scan_5 : decode cX11_scan 5 = .ok (.getfield 13, 3) := by decide +kernel
theorem dX11_scan_8 : decode cX11_scan 8 = .ok (.if_icmp .ge 44, 3) := by decide +kernel
theorem dX11_scan_11 : decode cX11_scan 11 = .ok (.aload_n 0, 1) := by decide +kernel
theorem dX11_scan_12 : decode cX11_scan 12 = .ok (.getfield 16, 3) := by decide +kernel
theorem dX11_scan_15 : decode cX11_scan 15 = .ok (.aload_n 0, 1) := by decide +kernel
theorem dX11_scan_16 : decode cX11_scan 16 = .ok (.getfield 20, 3) := by decide +kernel
theorem dX11_scan_19 : decode cX11_scan 19 = .ok (.baload, 1) := by decide +kernel
theorem dX11_scan_20 : decode cX11_scan 20 = .ok (.bipush 32, 2) := by decide +kernel
theorem dX11_scan_22 : decode cX11_scan 22 = .ok (.if_icmp .eq 17, 3) := by decide +kernel
theorem dX11_scan_25 : decode cX11_scan 25 = .ok (.aload_n 0, 1) := by decide +kernel
theorem dX11_scan_26 : decode cX11_scan 26 = .ok (.getfield 16, 3) := by decide +kernel
theorem dX11_scan_29 : decode cX11_scan 29 = .ok (.aload_n 0, 1) := by decide +kernel
theorem dX11_scan_30 : decode cX11_scan 30 = .ok (.getfield 20, 3) := by decide +kernel
theorem dX11_scan_33 : decode cX11_scan 33 = .ok (.baload, 1) := by decide +kernel
theorem dX11_scan_34 : decode cX11_scan 34 = .ok (.bipush 10, 2) := by decide +kernel
theorem dX11_scan_36 : decode cX11_scan 36 = .ok (.if_icmp .ne 16, 3) := by decide +kernel
theorem dX11_scan_39 : decode cX11_scan 39 = .ok (.aload_n 0, 1) := by decide +kernel
theorem dX11_scan_40 : decode cX11_scan 40 = .ok (.dup, 1) := by decide +kernel
theorem dX11_scan_41 : decode cX11_scan 41 = .ok (.getfield 20, 3) := by decide +kernel
theorem dX11_scan_44 : decode cX11_scan 44 = .ok (.iconst 1, 1) := by decide +kernel
theorem dX11_scan_45 : decode cX11_scan 45 = .ok (.iadd, 1) := by decide +kernel
theorem dX11_scan_46 : decode cX11_scan 46 = .ok (.putfield 20, 3) := by decide +kernel
theorem dX11_scan_49 : decode cX11_scan 49 = .ok (.goto (-49), 3) := by decide +kernel
theorem dX11_scan_52 : decode cX11_scan 52 = .ok (.aload_n 0, 1) := by decide +kernel
theorem dX11_scan_53 : decode cX11_scan 53 = .ok (.aload_n 0, 1) := by decide +kernel
theorem dX11_scan_54 : decode cX11_scan 54 = .ok (.getfield 20, 3) := by decide +kernel
theorem dX11_scan_57 : decode cX11_scan 57 = .ok (.putfield 7, 3) := by decide +kernel
theorem dX11_scan_60 : decode cX11_scan 60 = .ok (.aload_n 0, 1) := by decide +kernel
theorem dX11_scan_61 : decode cX11_scan 61 = .ok (.aload_n 0, 1) := by decide +kernel
theorem dX11_scan_62 : decode cX11_scan 62 = .ok (.getfield 7, 3) := by decide +kernel
theorem dX11_scan_65 : decode cX11_scan 65 = .ok (.invokevirtual 23, 3) := by decide +kernel
theorem dX11_scan_68 : decode cX11_scan 68 = .ok (.istore_n 1, 1) := by decide +kernel
theorem dX11_scan_69 : decode cX11_scan 69 = .ok (.aload_n 0, 1) := by decide +kernel
theorem dX11_scan_70 : decode cX11_scan 70 = .ok (.getfield 7, 3) := by decide +kernel
theorem dX11_scan_73 : decode cX11_scan 73 = .ok (.aload_n 0, 1) := by decide +kernel
theorem dX11_scan_74 : decode cX11_scan 74 = .ok (.getfield 13, 3) := by decide +kernel
theorem dX11_scan_77 : decode cX11_scan 77 = .ok (.if_icmp .ne 11, 3) := by decide +kernel
theorem dX11_scan_80 : decode cX11_scan 80 = .ok (.aload_n 0, 1) := by decide +kernel
theorem dX11_scan_81 : decode cX11_scan 81 = .ok (.iconst 0, 1) := by decide +kernel
theorem dX11_scan_82 : decode cX11_scan 82 = .ok (.putfield 27, 3) := by decide +kernel
theorem dX11_scan_85 : decode cX11_scan 85 = .ok (.goto 188, 3) := by decide +kernel
theorem dX11_scan_88 : decode cX11_scan 88 = .ok (.iload_n 1, 1) := by decide +kernel
theorem dX11_scan_89 : decode cX11_scan 89 = .ok (.invokestatic 30, 3) := by decide +kernel
theorem dX11_scan_92 : decode cX11_scan 92 = .ok (.ifCond .eq 56, 3) := by decide +kernel
theorem dX11_scan_95 : decode cX11_scan 95 = .ok (.aload_n 0, 1) := by decide +kernel
theorem dX11_scan_96 : decode cX11_scan 96 = .ok (.aload_n 0, 1) := by decide +kernel
theorem dX11_scan_97 : decode cX11_scan 97 = .ok (.getfield 20, 3) := by decide +kernel
theorem dX11_scan_100 : decode cX11_scan 100 = .ok (.invokevirtual 23, 3) := by decide +kernel
theorem dX11_scan_103 : decode cX11_scan 103 = .ok (.invokestatic 30, 3) := by decide +kernel
theorem dX11_scan_106 : decode cX11_scan 106 = .ok (.ifCond .eq 16, 3) := by decide +kernel
theorem dX11_scan_109 : decode cX11_scan 109 = .ok (.aload_n 0, 1) := by decide +kernel
theorem dX11_scan_110 : decode cX11_scan 110 = .ok (.dup, 1) := by decide +kernel
theorem dX11_scan_111 : decode cX11_scan 111 = .ok (.getfield 20, 3) := by decide +kernel
theorem dX11_scan_114 : decode cX11_scan 114 = .ok (.iconst 1, 1) := by decide +kernel
theorem dX11_scan_115 : decode cX11_scan 115 = .ok (.iadd, 1) := by decide +kernel
theorem dX11_scan_116 : decode cX11_scan 116 = .ok (.putfield 20, 3) := by decide +kernel
theorem dX11_scan_119 : decode cX11_scan 119 = .ok (.goto (-24), 3) := by decide +kernel
theorem dX11_scan_122 : decode cX11_scan 122 = .ok (.aload_n 0, 1) := by decide +kernel
theorem dX11_scan_123 : decode cX11_scan 123 = .ok (.aload_n 0, 1) := by decide +kernel
theorem dX11_scan_124 : decode cX11_scan 124 = .ok (.getfield 20, 3) := by decide +kernel
theorem dX11_scan_127 : decode cX11_scan 127 = .ok (.aload_n 0, 1) := by decide +kernel
theorem dX11_scan_128 : decode cX11_scan 128 = .ok (.getfield 7, 3) := by decide +kernel
theorem dX11_scan_131 : decode cX11_scan 131 = .ok (.isub, 1) := by decide +kernel
theorem dX11_scan_132 : decode cX11_scan 132 = .ok (.bipush 8, 2) := by decide +kernel
theorem dX11_scan_134 : decode cX11_scan 134 = .ok (.if_icmp .le 7, 3) := by decide +kernel
theorem dX11_scan_137 : decode cX11_scan 137 = .ok (.iconst 4, 1) := by decide +kernel
theorem dX11_scan_138 : decode cX11_scan 138 = .ok (.goto 4, 3) := by decide +kernel
theorem dX11_scan_141 : decode cX11_scan 141 = .ok (.iconst 1, 1) := by decide +kernel
theorem dX11_scan_142 : decode cX11_scan 142 = .ok (.putfield 27, 3) := by decide +kernel
theorem dX11_scan_145 : decode cX11_scan 145 = .ok (.goto 128, 3) := by decide +kernel
theorem dX11_scan_148 : decode cX11_scan 148 = .ok (.iload_n 1, 1) := by decide +kernel
theorem dX11_scan_149 : decode cX11_scan 149 = .ok (.invokestatic 34, 3) := by decide +kernel
theorem dX11_scan_152 : decode cX11_scan 152 = .ok (.ifCond .eq 96, 3) := by decide +kernel
theorem dX11_scan_155 : decode cX11_scan 155 = .ok (.aload_n 0, 1) := by decide +kernel
theorem dX11_scan_156 : decode cX11_scan 156 = .ok (.iconst 0, 1) := by decide +kernel
theorem dX11_scan_157 : decode cX11_scan 157 = .ok (.putfield 37, 3) := by decide +kernel
theorem dX11_scan_160 : decode cX11_scan 160 = .ok (.aload_n 0, 1) := by decide +kernel
theorem dX11_scan_161 : decode cX11_scan 161 = .ok (.aload_n 0, 1) := by decide +kernel
theorem dX11_scan_162 : decode cX11_scan 162 = .ok (.getfield 20, 3) := by decide +kernel
theorem dX11_scan_165 : decode cX11_scan 165 = .ok (.invokevirtual 23, 3) := by decide +kernel
theorem dX11_scan_168 : decode cX11_scan 168 = .ok (.invokestatic 34, 3) := by decide +kernel
theorem dX11_scan_171 : decode cX11_scan 171 = .ok (.ifCond .eq 52, 3) := by decide +kernel
theorem dX11_scan_174 : decode cX11_scan 174 = .ok (.aload_n 0, 1) := by decide +kernel
theorem dX11_scan_175 : decode cX11_scan 175 = .ok (.getfield 20, 3) := by decide +kernel
theorem dX11_scan_178 : decode cX11_scan 178 = .ok (.aload_n 0, 1) := by decide +kernel
theorem dX11_scan_179 : decode cX11_scan 179 = .ok (.getfield 7, 3) := by decide +kernel
theorem dX11_scan_182 : decode cX11_scan 182 = .ok (.isub, 1) := by decide +kernel
theorem dX11_scan_183 : decode cX11_scan 183 = .ok (.iconst 4, 1) := by decide +kernel
theorem dX11_scan_184 : decode cX11_scan 184 = .ok (.if_icmp .ge 26, 3) := by decide +kernel
theorem dX11_scan_187 : decode cX11_scan 187 = .ok (.aload_n 0, 1) := by decide +kernel
theorem dX11_scan_188 : decode cX11_scan 188 = .ok (.bipush 10, 2) := by decide +kernel
theorem dX11_scan_190 : decode cX11_scan 190 = .ok (.aload_n 0, 1) := by decide +kernel
theorem dX11_scan_191 : decode cX11_scan 191 = .ok (.getfield 37, 3) := by decide +kernel
theorem dX11_scan_194 : decode cX11_scan 194 = .ok (.imul, 1) := by decide +kernel
theorem dX11_scan_195 : decode cX11_scan 195 = .ok (.aload_n 0, 1) := by decide +kernel
theorem dX11_scan_196 : decode cX11_scan 196 = .ok (.aload_n 0, 1) := by decide +kernel
theorem dX11_scan_197 : decode cX11_scan 197 = .ok (.getfield 20, 3) := by decide +kernel
theorem dX11_scan_200 : decode cX11_scan 200 = .ok (.invokevirtual 23, 3) := by decide +kernel
theorem dX11_scan_203 : decode cX11_scan 203 = .ok (.iadd, 1) := by decide +kernel
theorem dX11_scan_204 : decode cX11_scan 204 = .ok (.bipush 48, 2) := by decide +kernel
theorem dX11_scan_206 : decode cX11_scan 206 = .ok (.isub, 1) := by decide +kernel
theorem dX11_scan_207 : decode cX11_scan 207 = .ok (.putfield 37, 3) := by decide +kernel
theorem dX11_scan_210 : decode cX11_scan 210 = .ok (.aload_n 0, 1) := by decide +kernel
theorem dX11_scan_211 : decode cX11_scan 211 = .ok (.dup, 1) := by decide +kernel
theorem dX11_scan_212 : decode cX11_scan 212 = .ok (.getfield 20, 3) := by decide +kernel
theorem dX11_scan_215 : decode cX11_scan 215 = .ok (.iconst 1, 1) := by decide +kernel
theorem dX11_scan_216 : decode cX11_scan 216 = .ok (.iadd, 1) := by decide +kernel
theorem dX11_scan_217 : decode cX11_scan 217 = .ok (.putfield 20, 3) := by decide +kernel
theorem dX11_scan_220 : decode cX11_scan 220 = .ok (.goto (-60), 3) := by decide +kernel
theorem dX11_scan_223 : decode cX11_scan 223 = .ok (.aload_n 0, 1) := by decide +kernel
theorem dX11_scan_224 : decode cX11_scan 224 = .ok (.aload_n 0, 1) := by decide +kernel
theorem dX11_scan_225 : decode cX11_scan 225 = .ok (.getfield 20, 3) := by decide +kernel
theorem dX11_scan_228 : decode cX11_scan 228 = .ok (.aload_n 0, 1) := by decide +kernel
theorem dX11_scan_229 : decode cX11_scan 229 = .ok (.getfield 7, 3) := by decide +kernel
theorem dX11_scan_232 : decode cX11_scan 232 = .ok (.isub, 1) := by decide +kernel
theorem dX11_scan_233 : decode cX11_scan 233 = .ok (.iconst 4, 1) := by decide +kernel
theorem dX11_scan_234 : decode cX11_scan 234 = .ok (.if_icmp .le 7, 3) := by decide +kernel
theorem dX11_scan_237 : decode cX11_scan 237 = .ok (.iconst 4, 1) := by decide +kernel
theorem dX11_scan_238 : decode cX11_scan 238 = .ok (.goto 4, 3) := by decide +kernel
theorem dX11_scan_241 : decode cX11_scan 241 = .ok (.iconst 2, 1) := by decide +kernel
theorem dX11_scan_242 : decode cX11_scan 242 = .ok (.putfield 27, 3) := by decide +kernel
theorem dX11_scan_245 : decode cX11_scan 245 = .ok (.goto 28, 3) := by decide +kernel
theorem dX11_scan_248 : decode cX11_scan 248 = .ok (.aload_n 0, 1) := by decide +kernel
theorem dX11_scan_249 : decode cX11_scan 249 = .ok (.iload_n 1, 1) := by decide +kernel
theorem dX11_scan_250 : decode cX11_scan 250 = .ok (.bipush 59, 2) := by decide +kernel
theorem dX11_scan_252 : decode cX11_scan 252 = .ok (.if_icmp .ne 7, 3) := by decide +kernel
theorem dX11_scan_255 : decode cX11_scan 255 = .ok (.iconst 3, 1) := by decide +kernel
theorem dX11_scan_256 : decode cX11_scan 256 = .ok (.goto 4, 3) := by decide +kernel
theorem dX11_scan_259 : decode cX11_scan 259 = .ok (.iconst 4, 1) := by decide +kernel
theorem dX11_scan_260 : decode cX11_scan 260 = .ok (.putfield 27, 3) := by decide +kernel
theorem dX11_scan_263 : decode cX11_scan 263 = .ok (.aload_n 0, 1) := by decide +kernel
theorem dX11_scan_264 : decode cX11_scan 264 = .ok (.dup, 1) := by decide +kernel
theorem dX11_scan_265 : decode cX11_scan 265 = .ok (.getfield 20, 3) := by decide +kernel
theorem dX11_scan_268 : decode cX11_scan 268 = .ok (.iconst 1, 1) := by decide +kernel
theorem dX11_scan_269 : decode cX11_scan 269 = .ok (.iadd, 1) := by decide +kernel
theorem dX11_scan_270 : decode cX11_scan 270 = .ok (.putfield 20, 3) := by decide +kernel
theorem dX11_scan_273 : decode cX11_scan 273 = .ok (.return_, 1) := by decide +kernel
theorem dX11_is_0 : decode cX11_is 0 = .ok (.aload_n 0, 1) := by decide +kernel
theorem dX11_is_1 : decode cX11_is 1 = .ok (.getfield 27, 3) := by decide +kernel
theorem dX11_is_4 : decode cX11_is 4 = .ok (.iconst 1, 1) := by decide +kernel
theorem dX11_is_5 : decode cX11_is 5 = .ok (.if_icmp .ne 23, 3) := by decide +kernel
theorem dX11_is_8 : decode cX11_is 8 = .ok (.aload_n 0, 1) := by decide +kernel
theorem dX11_is_9 : decode cX11_is 9 = .ok (.getfield 20, 3) := by decide +kernel
theorem dX11_is_12 : decode cX11_is 12 = .ok (.aload_n 0, 1) := by decide +kernel
theorem dX11_is_13 : decode cX11_is 13 = .ok (.getfield 7, 3) := by decide +kernel
theorem dX11_is_16 : decode cX11_is 16 = .ok (.isub, 1) := by decide +kernel
theorem dX11_is_17 : decode cX11_is 17 = .ok (.aload_n 1, 1) := by decide +kernel
theorem dX11_is_18 : decode cX11_is 18 = .ok (.invokevirtual 40, 3) := by decide +kernel
theorem dX11_is_21 : decode cX11_is 21 = .ok (.if_icmp .ne 7, 3) := by decide +kernel
theorem dX11_is_24 : decode cX11_is 24 = .ok (.iconst 1, 1) := by decide +kernel
theorem dX11_is_25 : decode cX11_is 25 = .ok (.goto 4, 3) := by decide +kernel
theorem dX11_is_28 : decode cX11_is 28 = .ok (.iconst 0, 1) := by decide +kernel
theorem dX11_is_29 : decode cX11_is 29 = .ok (.istore_n 2, 1) := by decide +kernel
theorem dX11_is_30 : decode cX11_is 30 = .ok (.iconst 0, 1) := by decide +kernel
theorem dX11_is_31 : decode cX11_is 31 = .ok (.istore_n 3, 1) := by decide +kernel
theorem dX11_is_32 : decode cX11_is 32 = .ok (.iload_n 3, 1) := by decide +kernel
theorem dX11_is_33 : decode cX11_is 33 = .ok (.aload_n 1, 1) := by decide +kernel
theorem dX11_is_34 : decode cX11_is 34 = .ok (.invokevirtual 40, 3) := by decide +kernel
theorem dX11_is_37 : decode cX11_is 37 = .ok (.if_icmp .ge 38, 3) := by decide +kernel
theorem dX11_is_40 : decode cX11_is 40 = .ok (.iload_n 2, 1) := by decide +kernel
theorem dX11_is_41 : decode cX11_is 41 = .ok (.ifCond .eq 34, 3) := by decide +kernel
theorem dX11_is_44 : decode cX11_is 44 = .ok (.aload_n 0, 1) := by decide +kernel
theorem dX11_is_45 : decode cX11_is 45 = .ok (.getfield 16, 3) := by decide +kernel
theorem dX11_is_48 : decode cX11_is 48 = .ok (.aload_n 0, 1) := by decide +kernel
theorem dX11_is_49 : decode cX11_is 49 = .ok (.getfield 7, 3) := by decide +kernel
theorem dX11_is_52 : decode cX11_is 52 = .ok (.iload_n 3, 1) := by decide +kernel
theorem dX11_is_53 : decode cX11_is 53 = .ok (.iadd, 1) := by decide +kernel
theorem dX11_is_54 : decode cX11_is 54 = .ok (.baload, 1) := by decide +kernel
theorem dX11_is_55 : decode cX11_is 55 = .ok (.aload_n 1, 1) := by decide +kernel
theorem dX11_is_56 : decode cX11_is 56 = .ok (.iload_n 3, 1) := by decide +kernel
theorem dX11_is_57 : decode cX11_is 57 = .ok (.invokevirtual 45, 3) := by decide +kernel
theorem dX11_is_60 : decode cX11_is 60 = .ok (.if_icmp .ne 7, 3) := by decide +kernel
theorem dX11_is_63 : decode cX11_is 63 = .ok (.iconst 1, 1) := by decide +kernel
theorem dX11_is_64 : decode cX11_is 64 = .ok (.goto 4, 3) := by decide +kernel
theorem dX11_is_67 : decode cX11_is 67 = .ok (.iconst 0, 1) := by decide +kernel
theorem dX11_is_68 : decode cX11_is 68 = .ok (.istore_n 2, 1) := by decide +kernel
theorem dX11_is_69 : decode cX11_is 69 = .ok (.iinc 3 1, 3) := by decide +kernel
theorem dX11_is_72 : decode cX11_is 72 = .ok (.goto (-40), 3) := by decide +kernel
theorem dX11_is_75 : decode cX11_is 75 = .ok (.iload_n 2, 1) := by decide +kernel
theorem dX11_is_76 : decode cX11_is 76 = .ok (.ireturn, 1) := by decide +kernel
theorem dX11_peek_0 : decode cX11_peek 0 = .ok (.aload_n 0, 1) := by decide +kernel
theorem dX11_peek_1 : decode cX11_peek 1 = .ok (.getfield 27, 3) := by decide +kernel
theorem dX11_peek_4 : decode cX11_peek 4 = .ok (.iconst 2, 1) := by decide +kernel
theorem dX11_peek_5 : decode cX11_peek 5 = .ok (.if_icmp .eq 9, 3) := by decide +kernel
theorem dX11_peek_8 : decode cX11_peek 8 = .ok (.aload_n 0, 1) := by decide +kernel
theorem dX11_peek_9 : decode cX11_peek 9 = .ok (.iconst 1, 1) := by decide +kernel
theorem dX11_peek_10 : decode cX11_peek 10 = .ok (.invokevirtual 49, 3) := by decide +kernel
theorem dX11_peek_13 : decode cX11_peek 13 = .ok (.ireturn, 1) := by decide +kernel
theorem dX11_peek_14 : decode cX11_peek 14 = .ok (.aload_n 0, 1) := by decide +kernel
theorem dX11_peek_15 : decode cX11_peek 15 = .ok (.getfield 37, 3) := by decide +kernel
theorem dX11_peek_18 : decode cX11_peek 18 = .ok (.i2l, 1) := by decide +kernel
theorem dX11_peek_19 : decode cX11_peek 19 = .ok (.iload_n 1, 1) := by decide +kernel
theorem dX11_peek_20 : decode cX11_peek 20 = .ok (.i2l, 1) := by decide +kernel
theorem dX11_peek_21 : decode cX11_peek 21 = .ok (.iload_n 2, 1) := by decide +kernel
theorem dX11_peek_22 : decode cX11_peek 22 = .ok (.i2l, 1) := by decide +kernel
theorem dX11_peek_23 : decode cX11_peek 23 = .ok (.invokestatic 52, 3) := by decide +kernel
theorem dX11_peek_26 : decode cX11_peek 26 = .ok (.ifCond .ne 9, 3) := by decide +kernel
theorem dX11_peek_29 : decode cX11_peek 29 = .ok (.aload_n 0, 1) := by decide +kernel
theorem dX11_peek_30 : decode cX11_peek 30 = .ok (.iconst 2, 1) := by decide +kernel
theorem dX11_peek_31 : decode cX11_peek 31 = .ok (.invokevirtual 49, 3) := by decide +kernel
theorem dX11_peek_34 : decode cX11_peek 34 = .ok (.ireturn, 1) := by decide +kernel
theorem dX11_peek_35 : decode cX11_peek 35 = .ok (.aload_n 0, 1) := by decide +kernel
theorem dX11_peek_36 : decode cX11_peek 36 = .ok (.aload_n 0, 1) := by decide +kernel
theorem dX11_peek_37 : decode cX11_peek 37 = .ok (.getfield 37, 3) := by decide +kernel
theorem dX11_peek_40 : decode cX11_peek 40 = .ok (.putfield 56, 3) := by decide +kernel
theorem dX11_peek_43 : decode cX11_peek 43 = .ok (.iconst 1, 1) := by decide +kernel
theorem dX11_peek_44 : decode cX11_peek 44 = .ok (.ireturn, 1) := by decide +kernel
theorem dX11_number_0 : decode cX11_number 0 = .ok (.aload_n 0, 1) := by decide +kernel
theorem dX11_number_1 : decode cX11_number 1 = .ok (.iload_n 1, 1) := by decide +kernel
theorem dX11_number_2 : decode cX11_number 2 = .ok (.iload_n 2, 1) := by decide +kernel
theorem dX11_number_3 : decode cX11_number 3 = .ok (.invokevirtual 59, 3) := by decide +kernel
theorem dX11_number_6 : decode cX11_number 6 = .ok (.ifCond .ne 5, 3) := by decide +kernel
theorem dX11_number_9 : decode cX11_number 9 = .ok (.iconst 0, 1) := by decide +kernel
theorem dX11_number_10 : decode cX11_number 10 = .ok (.ireturn, 1) := by decide +kernel
theorem dX11_number_11 : decode cX11_number 11 = .ok (.aload_n 0, 1) := by decide +kernel
theorem dX11_number_12 : decode cX11_number 12 = .ok (.invokevirtual 63, 3) := by decide +kernel
theorem dX11_number_15 : decode cX11_number 15 = .ok (.iconst 1, 1) := by decide +kernel
theorem dX11_number_16 : decode cX11_number 16 = .ok (.ireturn, 1) := by decide +kernel
theorem dX11_name_0 : decode cX11_name 0 = .ok (.lconst 0, 1) := by decide +kernel
theorem dX11_name_1 : decode cX11_name 1 = .ok (.lstore_n 1, 1) := by decide +kernel
theorem dX11_name_2 : decode cX11_name 2 = .ok (.aload_n 0, 1) := by decide +kernel
theorem dX11_name_3 : decode cX11_name 3 = .ok (.getfield 7, 3) := by decide +kernel
theorem dX11_name_6 : decode cX11_name 6 = .ok (.istore_n 3, 1) := by decide +kernel
theorem dX11_name_7 : decode cX11_name 7 = .ok (.iload_n 3, 1) := by decide +kernel
theorem dX11_name_8 : decode cX11_name 8 = .ok (.aload_n 0, 1) := by decide +kernel
theorem dX11_name_9 : decode cX11_name 9 = .ok (.getfield 20, 3) := by decide +kernel
theorem dX11_name_12 : decode cX11_name 12 = .ok (.if_icmp .ge 23, 3) := by decide +kernel
theorem dX11_name_15 : decode cX11_name 15 = .ok (.lload_n 1, 1) := by decide +kernel
theorem dX11_name_16 : decode cX11_name 16 = .ok (.iconst 5, 1) := by decide +kernel
theorem dX11_name_17 : decode cX11_name 17 = .ok (.lshl, 1) := by decide +kernel
theorem dX11_name_18 : decode cX11_name 18 = .ok (.aload_n 0, 1) := by decide +kernel
theorem dX11_name_19 : decode cX11_name 19 = .ok (.iload_n 3, 1) := by decide +kernel
theorem dX11_name_20 : decode cX11_name 20 = .ok (.invokevirtual 23, 3) := by decide +kernel
theorem dX11_name_23 : decode cX11_name 23 = .ok (.bipush 96, 2) := by decide +kernel
theorem dX11_name_25 : decode cX11_name 25 = .ok (.isub, 1) := by decide +kernel
theorem dX11_name_26 : decode cX11_name 26 = .ok (.i2l, 1) := by decide +kernel
theorem dX11_name_27 : decode cX11_name 27 = .ok (.lor, 1) := by decide +kernel
theorem dX11_name_28 : decode cX11_name 28 = .ok (.lstore_n 1, 1) := by decide +kernel
theorem dX11_name_29 : decode cX11_name 29 = .ok (.iinc 3 1, 3) := by decide +kernel
theorem dX11_name_32 : decode cX11_name 32 = .ok (.goto (-25), 3) := by decide +kernel
theorem dX11_name_35 : decode cX11_name 35 = .ok (.lload_n 1, 1) := by decide +kernel
theorem dX11_name_36 : decode cX11_name 36 = .ok (.lreturn, 1) := by decide +kernel
theorem dX11_find_0 : decode cX11_find 0 = .ok (.iconst 0, 1) := by decide +kernel
theorem dX11_find_1 : decode cX11_find 1 = .ok (.istore_n 3, 1) := by decide +kernel
theorem dX11_find_2 : decode cX11_find 2 = .ok (.iload_n 3, 1) := by decide +kernel
theorem dX11_find_3 : decode cX11_find 3 = .ok (.iload_n 2, 1) := by decide +kernel
theorem dX11_find_4 : decode cX11_find 4 = .ok (.if_icmp .ge 22, 3) := by decide +kernel
theorem dX11_find_7 : decode cX11_find 7 = .ok (.aload_n 1, 1) := by decide +kernel
theorem dX11_find_8 : decode cX11_find 8 = .ok (.iload_n 3, 1) := by decide +kernel
theorem dX11_find_9 : decode cX11_find 9 = .ok (.laload, 1) := by decide +kernel
theorem dX11_find_10 : decode cX11_find 10 = .ok (.aload_n 0, 1) := by decide +kernel
theorem dX11_find_11 : decode cX11_find 11 = .ok (.invokevirtual 67, 3) := by decide +kernel
theorem dX11_find_14 : decode cX11_find 14 = .ok (.lcmp, 1) := by decide +kernel
theorem dX11_find_15 : decode cX11_find 15 = .ok (.ifCond .ne 5, 3) := by decide +kernel
theorem dX11_find_18 : decode cX11_find 18 = .ok (.iload_n 3, 1) := by decide +kernel
theorem dX11_find_19 : decode cX11_find 19 = .ok (.ireturn, 1) := by decide +kernel
theorem dX11_find_20 : decode cX11_find 20 = .ok (.iinc 3 1, 3) := by decide +kernel
theorem dX11_find_23 : decode cX11_find 23 = .ok (.goto (-21), 3) := by decide +kernel
theorem dX11_find_26 : decode cX11_find 26 = .ok (.iconst (-1), 1) := by decide +kernel
theorem dX11_find_27 : decode cX11_find 27 = .ok (.ireturn, 1) := by decide +kernel
theorem dX11_fresh_0 : decode cX11_fresh 0 = .ok (.aload_n 0, 1) := by decide +kernel
theorem dX11_fresh_1 : decode cX11_fresh 1 = .ok (.getfield 27, 3) := by decide +kernel
theorem dX11_fresh_4 : decode cX11_fresh 4 = .ok (.iconst 1, 1) := by decide +kernel
theorem dX11_fresh_5 : decode cX11_fresh 5 = .ok (.if_icmp .eq 9, 3) := by decide +kernel
theorem dX11_fresh_8 : decode cX11_fresh 8 = .ok (.aload_n 0, 1) := by decide +kernel
theorem dX11_fresh_9 : decode cX11_fresh 9 = .ok (.iconst 1, 1) := by decide +kernel
theorem dX11_fresh_10 : decode cX11_fresh 10 = .ok (.invokevirtual 49, 3) := by decide +kernel
theorem dX11_fresh_13 : decode cX11_fresh 13 = .ok (.ireturn, 1) := by decide +kernel
theorem dX11_fresh_14 : decode cX11_fresh 14 = .ok (.aload_n 0, 1) := by decide +kernel
theorem dX11_fresh_15 : decode cX11_fresh 15 = .ok (.aload_n 1, 1) := by decide +kernel
theorem dX11_fresh_16 : decode cX11_fresh 16 = .ok (.iload_n 2, 1) := by decide +kernel
theorem dX11_fresh_17 : decode cX11_fresh 17 = .ok (.invokevirtual 71, 3) := by decide +kernel
theorem dX11_fresh_20 : decode cX11_fresh 20 = .ok (.iconst (-1), 1) := by decide +kernel
theorem dX11_fresh_21 : decode cX11_fresh 21 = .ok (.if_icmp .eq 9, 3) := by decide +kernel
theorem dX11_fresh_24 : decode cX11_fresh 24 = .ok (.aload_n 0, 1) := by decide +kernel
theorem dX11_fresh_25 : decode cX11_fresh 25 = .ok (.iconst 3, 1) := by decide +kernel
theorem dX11_fresh_26 : decode cX11_fresh 26 = .ok (.invokevirtual 49, 3) := by decide +kernel
theorem dX11_fresh_29 : decode cX11_fresh 29 = .ok (.ireturn, 1) := by decide +kernel
theorem dX11_fresh_30 : decode cX11_fresh 30 = .ok (.aload_n 1, 1) := by decide +kernel
theorem dX11_fresh_31 : decode cX11_fresh 31 = .ok (.iload_n 2, 1) := by decide +kernel
theorem dX11_fresh_32 : decode cX11_fresh 32 = .ok (.aload_n 0, 1) := by decide +kernel
theorem dX11_fresh_33 : decode cX11_fresh 33 = .ok (.invokevirtual 67, 3) := by decide +kernel
theorem dX11_fresh_36 : decode cX11_fresh 36 = .ok (.lastore, 1) := by decide +kernel
theorem dX11_fresh_37 : decode cX11_fresh 37 = .ok (.aload_n 0, 1) := by decide +kernel
theorem dX11_fresh_38 : decode cX11_fresh 38 = .ok (.invokevirtual 63, 3) := by decide +kernel
theorem dX11_fresh_41 : decode cX11_fresh 41 = .ok (.iconst 1, 1) := by decide +kernel
theorem dX11_fresh_42 : decode cX11_fresh 42 = .ok (.ireturn, 1) := by decide +kernel
theorem dX11_known_0 : decode cX11_known 0 = .ok (.aload_n 0, 1) := by decide +kernel
theorem dX11_known_1 : decode cX11_known 1 = .ok (.getfield 27, 3) := by decide +kernel
theorem dX11_known_4 : decode cX11_known 4 = .ok (.iconst 1, 1) := by decide +kernel
theorem dX11_known_5 : decode cX11_known 5 = .ok (.if_icmp .eq 9, 3) := by decide +kernel
theorem dX11_known_8 : decode cX11_known 8 = .ok (.aload_n 0, 1) := by decide +kernel
theorem dX11_known_9 : decode cX11_known 9 = .ok (.iconst 1, 1) := by decide +kernel
theorem dX11_known_10 : decode cX11_known 10 = .ok (.invokevirtual 49, 3) := by decide +kernel
theorem dX11_known_13 : decode cX11_known 13 = .ok (.ireturn, 1) := by decide +kernel
theorem dX11_known_14 : decode cX11_known 14 = .ok (.aload_n 0, 1) := by decide +kernel
theorem dX11_known_15 : decode cX11_known 15 = .ok (.aload_n 0, 1) := by decide +kernel
theorem dX11_known_16 : decode cX11_known 16 = .ok (.aload_n 1, 1) := by decide +kernel
theorem dX11_known_17 : decode cX11_known 17 = .ok (.iload_n 2, 1) := by decide +kernel
theorem dX11_known_18 : decode cX11_known 18 = .ok (.invokevirtual 71, 3) := by decide +kernel
theorem dX11_known_21 : decode cX11_known 21 = .ok (.putfield 56, 3) := by decide +kernel
theorem dX11_known_24 : decode cX11_known 24 = .ok (.aload_n 0, 1) := by decide +kernel
theorem dX11_known_25 : decode cX11_known 25 = .ok (.getfield 56, 3) := by decide +kernel
theorem dX11_known_28 : decode cX11_known 28 = .ok (.iconst (-1), 1) := by decide +kernel
theorem dX11_known_29 : decode cX11_known 29 = .ok (.if_icmp .ne 9, 3) := by decide +kernel
theorem dX11_known_32 : decode cX11_known 32 = .ok (.aload_n 0, 1) := by decide +kernel
theorem dX11_known_33 : decode cX11_known 33 = .ok (.iconst 5, 1) := by decide +kernel
theorem dX11_known_34 : decode cX11_known 34 = .ok (.invokevirtual 49, 3) := by decide +kernel
theorem dX11_known_37 : decode cX11_known 37 = .ok (.ireturn, 1) := by decide +kernel
theorem dX11_known_38 : decode cX11_known 38 = .ok (.aload_n 0, 1) := by decide +kernel
theorem dX11_known_39 : decode cX11_known 39 = .ok (.invokevirtual 63, 3) := by decide +kernel
theorem dX11_known_42 : decode cX11_known 42 = .ok (.iconst 1, 1) := by decide +kernel
theorem dX11_known_43 : decode cX11_known 43 = .ok (.ireturn, 1) := by decide +kernel
theorem dX11_open_0 : decode cX11_open 0 = .ok (.aload_n 0, 1) := by decide +kernel
theorem dX11_open_1 : decode cX11_open 1 = .ok (.aload_n 0, 1) := by decide +kernel
theorem dX11_open_2 : decode cX11_open 2 = .ok (.getfield 75, 3) := by decide +kernel
theorem dX11_open_5 : decode cX11_open 5 = .ok (.putfield 13, 3) := by decide +kernel
theorem dX11_open_8 : decode cX11_open 8 = .ok (.aload_n 0, 1) := by decide +kernel
theorem dX11_open_9 : decode cX11_open 9 = .ok (.iconst 0, 1) := by decide +kernel
theorem dX11_open_10 : decode cX11_open 10 = .ok (.putfield 75, 3) := by decide +kernel
theorem dX11_open_13 : decode cX11_open 13 = .ok (.aload_n 0, 1) := by decide +kernel
theorem dX11_open_14 : decode cX11_open 14 = .ok (.iconst 0, 1) := by decide +kernel
theorem dX11_open_15 : decode cX11_open 15 = .ok (.putfield 20, 3) := by decide +kernel
theorem dX11_open_18 : decode cX11_open 18 = .ok (.aload_n 0, 1) := by decide +kernel
theorem dX11_open_19 : decode cX11_open 19 = .ok (.iconst 0, 1) := by decide +kernel
theorem dX11_open_20 : decode cX11_open 20 = .ok (.putfield 3, 3) := by decide +kernel
theorem dX11_open_23 : decode cX11_open 23 = .ok (.aload_n 0, 1) := by decide +kernel
theorem dX11_open_24 : decode cX11_open 24 = .ok (.iconst (-1), 1) := by decide +kernel
theorem dX11_open_25 : decode cX11_open 25 = .ok (.putfield 10, 3) := by decide +kernel
theorem dX11_open_28 : decode cX11_open 28 = .ok (.aload_n 0, 1) := by decide +kernel
theorem dX11_open_29 : decode cX11_open 29 = .ok (.invokevirtual 63, 3) := by decide +kernel
theorem dX11_open_32 : decode cX11_open 32 = .ok (.return_, 1) := by decide +kernel
theorem dX11_close_0 : decode cX11_close 0 = .ok (.aload_n 0, 1) := by decide +kernel
theorem dX11_close_1 : decode cX11_close 1 = .ok (.getfield 27, 3) := by decide +kernel
theorem dX11_close_4 : decode cX11_close 4 = .ok (.iconst 3, 1) := by decide +kernel
theorem dX11_close_5 : decode cX11_close 5 = .ok (.if_icmp .eq 9, 3) := by decide +kernel
theorem dX11_close_8 : decode cX11_close 8 = .ok (.aload_n 0, 1) := by decide +kernel
theorem dX11_close_9 : decode cX11_close 9 = .ok (.iconst 1, 1) := by decide +kernel
theorem dX11_close_10 : decode cX11_close 10 = .ok (.invokevirtual 49, 3) := by decide +kernel
theorem dX11_close_13 : decode cX11_close 13 = .ok (.ireturn, 1) := by decide +kernel
theorem dX11_close_14 : decode cX11_close 14 = .ok (.aload_n 0, 1) := by decide +kernel
theorem dX11_close_15 : decode cX11_close 15 = .ok (.invokevirtual 63, 3) := by decide +kernel
theorem dX11_close_18 : decode cX11_close 18 = .ok (.iconst 1, 1) := by decide +kernel
theorem dX11_close_19 : decode cX11_close 19 = .ok (.ireturn, 1) := by decide +kernel
theorem dX11_readRot_0 : decode cX11_readRot 0 = .ok (.aload_n 0, 1) := by decide +kernel
theorem dX11_readRot_1 : decode cX11_readRot 1 = .ok (.invokevirtual 63, 3) := by decide +kernel
theorem dX11_readRot_4 : decode cX11_readRot 4 = .ok (.aload_n 0, 1) := by decide +kernel
theorem dX11_readRot_5 : decode cX11_readRot 5 = .ok (.iconst 0, 1) := by decide +kernel
theorem dX11_readRot_6 : decode cX11_readRot 6 = .ok (.bipush 6, 2) := by decide +kernel
theorem dX11_readRot_8 : decode cX11_readRot 8 = .ok (.invokevirtual 59, 3) := by decide +kernel
theorem dX11_readRot_11 : decode cX11_readRot 11 = .ok (.ifCond .ne 5, 3) := by decide +kernel
theorem dX11_readRot_14 : decode cX11_readRot 14 = .ok (.iconst 0, 1) := by decide +kernel
theorem dX11_readRot_15 : decode cX11_readRot 15 = .ok (.ireturn, 1) := by decide +kernel
theorem dX11_readRot_16 : decode cX11_readRot 16 = .ok (.aload_n 0, 1) := by decide +kernel
theorem dX11_readRot_17 : decode cX11_readRot 17 = .ok (.getfield 78, 3) := by decide +kernel
theorem dX11_readRot_20 : decode cX11_readRot 20 = .ok (.aload_n 0, 1) := by decide +kernel
theorem dX11_readRot_21 : decode cX11_readRot 21 = .ok (.getfield 56, 3) := by decide +kernel
theorem dX11_readRot_24 : decode cX11_readRot 24 = .ok (.ishr, 1) := by decide +kernel
theorem dX11_readRot_25 : decode cX11_readRot 25 = .ok (.iconst 1, 1) := by decide +kernel
theorem dX11_readRot_26 : decode cX11_readRot 26 = .ok (.iand, 1) := by decide +kernel
theorem dX11_readRot_27 : decode cX11_readRot 27 = .ok (.iconst 1, 1) := by decide +kernel
theorem dX11_readRot_28 : decode cX11_readRot 28 = .ok (.if_icmp .ne 9, 3) := by decide +kernel
theorem dX11_readRot_31 : decode cX11_readRot 31 = .ok (.aload_n 0, 1) := by decide +kernel
theorem dX11_readRot_32 : decode cX11_readRot 32 = .ok (.iconst 3, 1) := by decide +kernel
theorem dX11_readRot_33 : decode cX11_readRot 33 = .ok (.invokevirtual 49, 3) := by decide +kernel
theorem dX11_readRot_36 : decode cX11_readRot 36 = .ok (.ireturn, 1) := by decide +kernel
theorem dX11_readRot_37 : decode cX11_readRot 37 = .ok (.aload_n 0, 1) := by decide +kernel
theorem dX11_readRot_38 : decode cX11_readRot 38 = .ok (.dup, 1) := by decide +kernel
theorem dX11_readRot_39 : decode cX11_readRot 39 = .ok (.getfield 78, 3) := by decide +kernel
theorem dX11_readRot_42 : decode cX11_readRot 42 = .ok (.iconst 1, 1) := by decide +kernel
theorem dX11_readRot_43 : decode cX11_readRot 43 = .ok (.aload_n 0, 1) := by decide +kernel
theorem dX11_readRot_44 : decode cX11_readRot 44 = .ok (.getfield 56, 3) := by decide +kernel
theorem dX11_readRot_47 : decode cX11_readRot 47 = .ok (.ishl, 1) := by decide +kernel
theorem dX11_readRot_48 : decode cX11_readRot 48 = .ok (.ior, 1) := by decide +kernel
theorem dX11_readRot_49 : decode cX11_readRot 49 = .ok (.putfield 78, 3) := by decide +kernel
theorem dX11_readRot_52 : decode cX11_readRot 52 = .ok (.aload_n 0, 1) := by decide +kernel
theorem dX11_readRot_53 : decode cX11_readRot 53 = .ok (.getfield 56, 3) := by decide +kernel
theorem dX11_readRot_56 : decode cX11_readRot 56 = .ok (.istore_n 1, 1) := by decide +kernel
theorem dX11_readRot_57 : decode cX11_readRot 57 = .ok (.aload_n 0, 1) := by decide +kernel
theorem dX11_readRot_58 : decode cX11_readRot 58 = .ok (.invokevirtual 63, 3) := by decide +kernel
theorem dX11_readRot_61 : decode cX11_readRot 61 = .ok (.aload_n 0, 1) := by decide +kernel
theorem dX11_readRot_62 : decode cX11_readRot 62 = .ok (.iconst 0, 1) := by decide +kernel
theorem dX11_readRot_63 : decode cX11_readRot 63 = .ok (.sipush 900, 3) := by decide +kernel
theorem dX11_readRot_66 : decode cX11_readRot 66 = .ok (.invokevirtual 81, 3) := by decide +kernel
theorem dX11_readRot_69 : decode cX11_readRot 69 = .ok (.ifCond .ne 5, 3) := by decide +kernel
theorem dX11_readRot_72 : decode cX11_readRot 72 = .ok (.iconst 0, 1) := by decide +kernel
theorem dX11_readRot_73 : decode cX11_readRot 73 = .ok (.ireturn, 1) := by decide +kernel
theorem dX11_readRot_74 : decode cX11_readRot 74 = .ok (.aload_n 0, 1) := by decide +kernel
theorem dX11_readRot_75 : decode cX11_readRot 75 = .ok (.getfield 84, 3) := by decide +kernel
theorem dX11_readRot_78 : decode cX11_readRot 78 = .ok (.iload_n 1, 1) := by decide +kernel
theorem dX11_readRot_79 : decode cX11_readRot 79 = .ok (.aload_n 0, 1) := by decide +kernel
theorem dX11_readRot_80 : decode cX11_readRot 80 = .ok (.getfield 56, 3) := by decide +kernel
theorem dX11_readRot_83 : decode cX11_readRot 83 = .ok (.iastore, 1) := by decide +kernel
theorem dX11_readRot_84 : decode cX11_readRot 84 = .ok (.iconst 1, 1) := by decide +kernel
theorem dX11_readRot_85 : decode cX11_readRot 85 = .ok (.ireturn, 1) := by decide +kernel
theorem dX11_readSort_0 : decode cX11_readSort 0 = .ok (.aload_n 0, 1) := by decide +kernel
theorem dX11_readSort_1 : decode cX11_readSort 1 = .ok (.getfield 88, 3) := by decide +kernel
theorem dX11_readSort_4 : decode cX11_readSort 4 = .ok (.iconst 4, 1) := by decide +kernel
theorem dX11_readSort_5 : decode cX11_readSort 5 = .ok (.if_icmp .ne 9, 3) := by decide +kernel
theorem dX11_readSort_8 : decode cX11_readSort 8 = .ok (.aload_n 0, 1) := by decide +kernel
theorem dX11_readSort_9 : decode cX11_readSort 9 = .ok (.iconst 4, 1) := by decide +kernel
theorem dX11_readSort_10 : decode cX11_readSort 10 = .ok (.invokevirtual 49, 3) := by decide +kernel
theorem dX11_readSort_13 : decode cX11_readSort 13 = .ok (.ireturn, 1) := by decide +kernel
theorem dX11_readSort_14 : decode cX11_readSort 14 = .ok (.aload_n 0, 1) := by decide +kernel
theorem dX11_readSort_15 : decode cX11_readSort 15 = .ok (.invokevirtual 63, 3) := by decide +kernel
theorem dX11_readSort_18 : decode cX11_readSort 18 = .ok (.aload_n 0, 1) := by decide +kernel
theorem dX11_readSort_19 : decode cX11_readSort 19 = .ok (.getfield 88, 3) := by decide +kernel
theorem dX11_readSort_22 : decode cX11_readSort 22 = .ok (.istore_n 1, 1) := by decide +kernel
theorem dX11_readSort_23 : decode cX11_readSort 23 = .ok (.aload_n 0, 1) := by decide +kernel
theorem dX11_readSort_24 : decode cX11_readSort 24 = .ok (.aload_n 0, 1) := by decide +kernel
theorem dX11_readSort_25 : decode cX11_readSort 25 = .ok (.getfield 91, 3) := by decide +kernel
theorem dX11_readSort_28 : decode cX11_readSort 28 = .ok (.iload_n 1, 1) := by decide +kernel
theorem dX11_readSort_29 : decode cX11_readSort 29 = .ok (.invokevirtual 95, 3) := by decide +kernel
theorem dX11_readSort_32 : decode cX11_readSort 32 = .ok (.ifCond .eq 13, 3) := by decide +kernel
theorem dX11_readSort_35 : decode cX11_readSort 35 = .ok (.aload_n 0, 1) := by decide +kernel
theorem dX11_readSort_36 : decode cX11_readSort 36 = .ok (.iconst 1, 1) := by decide +kernel
theorem dX11_readSort_37 : decode cX11_readSort 37 = .ok (.bipush 99, 2) := by decide +kernel
theorem dX11_readSort_39 : decode cX11_readSort 39 = .ok (.invokevirtual 81, 3) := by decide +kernel
theorem dX11_readSort_42 : decode cX11_readSort 42 = .ok (.ifCond .ne 5, 3) := by decide +kernel
theorem dX11_readSort_45 : decode cX11_readSort 45 = .ok (.iconst 0, 1) := by decide +kernel
theorem dX11_readSort_46 : decode cX11_readSort 46 = .ok (.ireturn, 1) := by decide +kernel
theorem dX11_readSort_47 : decode cX11_readSort 47 = .ok (.aload_n 0, 1) := by decide +kernel
theorem dX11_readSort_48 : decode cX11_readSort 48 = .ok (.getfield 99, 3) := by decide +kernel
theorem dX11_readSort_51 : decode cX11_readSort 51 = .ok (.iload_n 1, 1) := by decide +kernel
theorem dX11_readSort_52 : decode cX11_readSort 52 = .ok (.aload_n 0, 1) := by decide +kernel
theorem dX11_readSort_53 : decode cX11_readSort 53 = .ok (.getfield 56, 3) := by decide +kernel
theorem dX11_readSort_56 : decode cX11_readSort 56 = .ok (.iastore, 1) := by decide +kernel
theorem dX11_readSort_57 : decode cX11_readSort 57 = .ok (.aload_n 0, 1) := by decide +kernel
theorem dX11_readSort_58 : decode cX11_readSort 58 = .ok (.iconst 0, 1) := by decide +kernel
theorem dX11_readSort_59 : decode cX11_readSort 59 = .ok (.sipush 1000, 3) := by decide +kernel
theorem dX11_readSort_62 : decode cX11_readSort 62 = .ok (.invokevirtual 81, 3) := by decide +kernel
theorem dX11_readSort_65 : decode cX11_readSort 65 = .ok (.ifCond .ne 5, 3) := by decide +kernel
theorem dX11_readSort_68 : decode cX11_readSort 68 = .ok (.iconst 0, 1) := by decide +kernel
theorem dX11_readSort_69 : decode cX11_readSort 69 = .ok (.ireturn, 1) := by decide +kernel
theorem dX11_readSort_70 : decode cX11_readSort 70 = .ok (.aload_n 0, 1) := by decide +kernel
theorem dX11_readSort_71 : decode cX11_readSort 71 = .ok (.getfield 102, 3) := by decide +kernel
theorem dX11_readSort_74 : decode cX11_readSort 74 = .ok (.iload_n 1, 1) := by decide +kernel
theorem dX11_readSort_75 : decode cX11_readSort 75 = .ok (.aload_n 0, 1) := by decide +kernel
theorem dX11_readSort_76 : decode cX11_readSort 76 = .ok (.getfield 56, 3) := by decide +kernel
theorem dX11_readSort_79 : decode cX11_readSort 79 = .ok (.iastore, 1) := by decide +kernel
theorem dX11_readSort_80 : decode cX11_readSort 80 = .ok (.aload_n 0, 1) := by decide +kernel
theorem dX11_readSort_81 : decode cX11_readSort 81 = .ok (.iconst 0, 1) := by decide +kernel
theorem dX11_readSort_82 : decode cX11_readSort 82 = .ok (.bipush 60, 2) := by decide +kernel
theorem dX11_readSort_84 : decode cX11_readSort 84 = .ok (.invokevirtual 81, 3) := by decide +kernel
theorem dX11_readSort_87 : decode cX11_readSort 87 = .ok (.ifCond .ne 5, 3) := by decide +kernel
theorem dX11_readSort_90 : decode cX11_readSort 90 = .ok (.iconst 0, 1) := by decide +kernel
theorem dX11_readSort_91 : decode cX11_readSort 91 = .ok (.ireturn, 1) := by decide +kernel
theorem dX11_readSort_92 : decode cX11_readSort 92 = .ok (.aload_n 0, 1) := by decide +kernel
theorem dX11_readSort_93 : decode cX11_readSort 93 = .ok (.getfield 105, 3) := by decide +kernel
theorem dX11_readSort_96 : decode cX11_readSort 96 = .ok (.iload_n 1, 1) := by decide +kernel
theorem dX11_readSort_97 : decode cX11_readSort 97 = .ok (.aload_n 0, 1) := by decide +kernel
theorem dX11_readSort_98 : decode cX11_readSort 98 = .ok (.getfield 56, 3) := by decide +kernel
theorem dX11_readSort_101 : decode cX11_readSort 101 = .ok (.iastore, 1) := by decide +kernel
theorem dX11_readSort_102 : decode cX11_readSort 102 = .ok (.aload_n 0, 1) := by decide +kernel
theorem dX11_readSort_103 : decode cX11_readSort 103 = .ok (.getfield 108, 3) := by decide +kernel
theorem dX11_readSort_106 : decode cX11_readSort 106 = .ok (.iload_n 1, 1) := by decide +kernel
theorem dX11_readSort_107 : decode cX11_readSort 107 = .ok (.iconst 0, 1) := by decide +kernel
theorem dX11_readSort_108 : decode cX11_readSort 108 = .ok (.iastore, 1) := by decide +kernel
theorem dX11_readSort_109 : decode cX11_readSort 109 = .ok (.aload_n 0, 1) := by decide +kernel
theorem dX11_readSort_110 : decode cX11_readSort 110 = .ok (.getfield 111, 3) := by decide +kernel
theorem dX11_readSort_113 : decode cX11_readSort 113 = .ok (.iload_n 1, 1) := by decide +kernel
theorem dX11_readSort_114 : decode cX11_readSort 114 = .ok (.iconst 0, 1) := by decide +kernel
theorem dX11_readSort_115 : decode cX11_readSort 115 = .ok (.iastore, 1) := by decide +kernel
theorem dX11_readSort_116 : decode cX11_readSort 116 = .ok (.iconst 0, 1) := by decide +kernel
theorem dX11_readSort_117 : decode cX11_readSort 117 = .ok (.istore_n 2, 1) := by decide +kernel
theorem dX11_readSort_118 : decode cX11_readSort 118 = .ok (.iload_n 2, 1) := by decide +kernel
theorem dX11_readSort_119 : decode cX11_readSort 119 = .ok (.bipush 7, 2) := by decide +kernel
theorem dX11_readSort_121 : decode cX11_readSort 121 = .ok (.if_icmp .ge 57, 3) := by decide +kernel
theorem dX11_readSort_124 : decode cX11_readSort 124 = .ok (.aload_n 0, 1) := by decide +kernel
theorem dX11_readSort_125 : decode cX11_readSort 125 = .ok (.getfield 114, 3) := by decide +kernel
theorem dX11_readSort_128 : decode cX11_readSort 128 = .ok (.bipush 7, 2) := by decide +kernel
theorem dX11_readSort_130 : decode cX11_readSort 130 = .ok (.iload_n 1, 1) := by decide +kernel
theorem dX11_readSort_131 : decode cX11_readSort 131 = .ok (.imul, 1) := by decide +kernel
theorem dX11_readSort_132 : decode cX11_readSort 132 = .ok (.iload_n 2, 1) := by decide +kernel
theorem dX11_readSort_133 : decode cX11_readSort 133 = .ok (.iadd, 1) := by decide +kernel
theorem dX11_readSort_134 : decode cX11_readSort 134 = .ok (.iconst 0, 1) := by decide +kernel
theorem dX11_readSort_135 : decode cX11_readSort 135 = .ok (.iastore, 1) := by decide +kernel
theorem dX11_readSort_136 : decode cX11_readSort 136 = .ok (.aload_n 0, 1) := by decide +kernel
theorem dX11_readSort_137 : decode cX11_readSort 137 = .ok (.getfield 117, 3) := by decide +kernel
theorem dX11_readSort_140 : decode cX11_readSort 140 = .ok (.bipush 7, 2) := by decide +kernel
theorem dX11_readSort_142 : decode cX11_readSort 142 = .ok (.iload_n 1, 1) := by decide +kernel
theorem dX11_readSort_143 : decode cX11_readSort 143 = .ok (.imul, 1) := by decide +kernel
theorem dX11_readSort_144 : decode cX11_readSort 144 = .ok (.iload_n 2, 1) := by decide +kernel
theorem dX11_readSort_145 : decode cX11_readSort 145 = .ok (.iadd, 1) := by decide +kernel
theorem dX11_readSort_146 : decode cX11_readSort 146 = .ok (.iconst (-1), 1) := by decide +kernel
theorem dX11_readSort_147 : decode cX11_readSort 147 = .ok (.iastore, 1) := by decide +kernel
theorem dX11_readSort_148 : decode cX11_readSort 148 = .ok (.aload_n 0, 1) := by decide +kernel
theorem dX11_readSort_149 : decode cX11_readSort 149 = .ok (.getfield 120, 3) := by decide +kernel
theorem dX11_readSort_152 : decode cX11_readSort 152 = .ok (.bipush 7, 2) := by decide +kernel
theorem dX11_readSort_154 : decode cX11_readSort 154 = .ok (.iload_n 1, 1) := by decide +kernel
theorem dX11_readSort_155 : decode cX11_readSort 155 = .ok (.imul, 1) := by decide +kernel
theorem dX11_readSort_156 : decode cX11_readSort 156 = .ok (.iload_n 2, 1) := by decide +kernel
theorem dX11_readSort_157 : decode cX11_readSort 157 = .ok (.iadd, 1) := by decide +kernel
theorem dX11_readSort_158 : decode cX11_readSort 158 = .ok (.iconst 0, 1) := by decide +kernel
theorem dX11_readSort_159 : decode cX11_readSort 159 = .ok (.iastore, 1) := by decide +kernel
theorem dX11_readSort_160 : decode cX11_readSort 160 = .ok (.aload_n 0, 1) := by decide +kernel
theorem dX11_readSort_161 : decode cX11_readSort 161 = .ok (.getfield 123, 3) := by decide +kernel
theorem dX11_readSort_164 : decode cX11_readSort 164 = .ok (.bipush 7, 2) := by decide +kernel
theorem dX11_readSort_166 : decode cX11_readSort 166 = .ok (.iload_n 1, 1) := by decide +kernel
theorem dX11_readSort_167 : decode cX11_readSort 167 = .ok (.imul, 1) := by decide +kernel
theorem dX11_readSort_168 : decode cX11_readSort 168 = .ok (.iload_n 2, 1) := by decide +kernel
theorem dX11_readSort_169 : decode cX11_readSort 169 = .ok (.iadd, 1) := by decide +kernel
theorem dX11_readSort_170 : decode cX11_readSort 170 = .ok (.iconst 0, 1) := by decide +kernel
theorem dX11_readSort_171 : decode cX11_readSort 171 = .ok (.iastore, 1) := by decide +kernel
theorem dX11_readSort_172 : decode cX11_readSort 172 = .ok (.iinc 2 1, 3) := by decide +kernel
theorem dX11_readSort_175 : decode cX11_readSort 175 = .ok (.goto (-57), 3) := by decide +kernel
theorem dX11_readSort_178 : decode cX11_readSort 178 = .ok (.aload_n 0, 1) := by decide +kernel
theorem dX11_readSort_179 : decode cX11_readSort 179 = .ok (.dup, 1) := by decide +kernel
theorem dX11_readSort_180 : decode cX11_readSort 180 = .ok (.getfield 88, 3) := by decide +kernel
theorem dX11_readSort_183 : decode cX11_readSort 183 = .ok (.iconst 1, 1) := by decide +kernel
theorem dX11_readSort_184 : decode cX11_readSort 184 = .ok (.iadd, 1) := by decide +kernel
theorem dX11_readSort_185 : decode cX11_readSort 185 = .ok (.putfield 88, 3) := by decide +kernel
theorem dX11_readSort_188 : decode cX11_readSort 188 = .ok (.iconst 1, 1) := by decide +kernel
theorem dX11_readSort_189 : decode cX11_readSort 189 = .ok (.ireturn, 1) := by decide +kernel
theorem dX11_readThingOf_0 : decode cX11_readThingOf 0 = .ok (.aload_n 0, 1) := by decide +kernel
theorem dX11_readThingOf_1 : decode cX11_readThingOf 1 = .ok (.getfield 126, 3) := by decide +kernel
theorem dX11_readThingOf_4 : decode cX11_readThingOf 4 = .ok (.iconst 3, 1) := by decide +kernel
theorem dX11_readThingOf_5 : decode cX11_readThingOf 5 = .ok (.if_icmp .ne 9, 3) := by decide +kernel
theorem dX11_readThingOf_8 : decode cX11_readThingOf 8 = .ok (.aload_n 0, 1) := by decide +kernel
theorem dX11_readThingOf_9 : decode cX11_readThingOf 9 = .ok (.iconst 4, 1) := by decide +kernel
theorem dX11_readThingOf_10 : decode cX11_readThingOf 10 = .ok (.invokevirtual 49, 3) := by decide +kernel
theorem dX11_readThingOf_13 : decode cX11_readThingOf 13 = .ok (.ireturn, 1) := by decide +kernel
theorem dX11_readThingOf_14 : decode cX11_readThingOf 14 = .ok (.aload_n 0, 1) := by decide +kernel
theorem dX11_readThingOf_15 : decode cX11_readThingOf 15 = .ok (.invokevirtual 63, 3) := by decide +kernel
theorem dX11_readThingOf_18 : decode cX11_readThingOf 18 = .ok (.aload_n 0, 1) := by decide +kernel
theorem dX11_readThingOf_19 : decode cX11_readThingOf 19 = .ok (.getfield 126, 3) := by decide +kernel
theorem dX11_readThingOf_22 : decode cX11_readThingOf 22 = .ok (.istore_n 1, 1) := by decide +kernel
theorem dX11_readThingOf_23 : decode cX11_readThingOf 23 = .ok (.aload_n 0, 1) := by decide +kernel
theorem dX11_readThingOf_24 : decode cX11_readThingOf 24 = .ok (.aload_n 0, 1) := by decide +kernel
theorem dX11_readThingOf_25 : decode cX11_readThingOf 25 = .ok (.getfield 129, 3) := by decide +kernel
theorem dX11_readThingOf_28 : decode cX11_readThingOf 28 = .ok (.iload_n 1, 1) := by decide +kernel
theorem dX11_readThingOf_29 : decode cX11_readThingOf 29 = .ok (.invokevirtual 95, 3) := by decide +kernel
theorem dX11_readThingOf_32 : decode cX11_readThingOf 32 = .ok (.ifCond .eq 14, 3) := by decide +kernel
theorem dX11_readThingOf_35 : decode cX11_readThingOf 35 = .ok (.aload_n 0, 1) := by decide +kernel
theorem dX11_readThingOf_36 : decode cX11_readThingOf 36 = .ok (.iconst 0, 1) := by decide +kernel
theorem dX11_readThingOf_37 : decode cX11_readThingOf 37 = .ok (.sipush 1000, 3) := by decide +kernel
theorem dX11_readThingOf_40 : decode cX11_readThingOf 40 = .ok (.invokevirtual 81, 3) := by decide +kernel
theorem dX11_readThingOf_43 : decode cX11_readThingOf 43 = .ok (.ifCond .ne 5, 3) := by decide +kernel
theorem dX11_readThingOf_46 : decode cX11_readThingOf 46 = .ok (.iconst 0, 1) := by decide +kernel
theorem dX11_readThingOf_47 : decode cX11_readThingOf 47 = .ok (.ireturn, 1) := by decide +kernel
theorem dX11_readThingOf_48 : decode cX11_readThingOf 48 = .ok (.aload_n 0, 1) := by decide +kernel
theorem dX11_readThingOf_49 : decode cX11_readThingOf 49 = .ok (.getfield 132, 3) := by decide +kernel
theorem dX11_readThingOf_52 : decode cX11_readThingOf 52 = .ok (.iload_n 1, 1) := by decide +kernel
theorem dX11_readThingOf_53 : decode cX11_readThingOf 53 = .ok (.aload_n 0, 1) := by decide +kernel
theorem dX11_readThingOf_54 : decode cX11_readThingOf 54 = .ok (.getfield 56, 3) := by decide +kernel
theorem dX11_readThingOf_57 : decode cX11_readThingOf 57 = .ok (.iastore, 1) := by decide +kernel
theorem dX11_readThingOf_58 : decode cX11_readThingOf 58 = .ok (.aload_n 0, 1) := by decide +kernel
theorem dX11_readThingOf_59 : decode cX11_readThingOf 59 = .ok (.iconst 0, 1) := by decide +kernel
theorem dX11_readThingOf_60 : decode cX11_readThingOf 60 = .ok (.bipush 9, 2) := by decide +kernel
theorem dX11_readThingOf_62 : decode cX11_readThingOf 62 = .ok (.invokevirtual 81, 3) := by decide +kernel
theorem dX11_readThingOf_65 : decode cX11_readThingOf 65 = .ok (.ifCond .ne 5, 3) := by decide +kernel
theorem dX11_readThingOf_68 : decode cX11_readThingOf 68 = .ok (.iconst 0, 1) := by decide +kernel
theorem dX11_readThingOf_69 : decode cX11_readThingOf 69 = .ok (.ireturn, 1) := by decide +kernel
theorem dX11_readThingOf_70 : decode cX11_readThingOf 70 = .ok (.aload_n 0, 1) := by decide +kernel
theorem dX11_readThingOf_71 : decode cX11_readThingOf 71 = .ok (.getfield 135, 3) := by decide +kernel
theorem dX11_readThingOf_74 : decode cX11_readThingOf 74 = .ok (.iload_n 1, 1) := by decide +kernel
theorem dX11_readThingOf_75 : decode cX11_readThingOf 75 = .ok (.aload_n 0, 1) := by decide +kernel
theorem dX11_readThingOf_76 : decode cX11_readThingOf 76 = .ok (.getfield 56, 3) := by decide +kernel
theorem dX11_readThingOf_79 : decode cX11_readThingOf 79 = .ok (.iastore, 1) := by decide +kernel
theorem dX11_readThingOf_80 : decode cX11_readThingOf 80 = .ok (.aload_n 0, 1) := by decide +kernel
theorem dX11_readThingOf_81 : decode cX11_readThingOf 81 = .ok (.getfield 138, 3) := by decide +kernel
theorem dX11_readThingOf_84 : decode cX11_readThingOf 84 = .ok (.iload_n 1, 1) := by decide +kernel
theorem dX11_readThingOf_85 : decode cX11_readThingOf 85 = .ok (.iconst 0, 1) := by decide +kernel
theorem dX11_readThingOf_86 : decode cX11_readThingOf 86 = .ok (.iastore, 1) := by decide +kernel
