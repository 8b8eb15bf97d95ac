theorem dX11_early_52 : decode cX11_early 52 = .ok (.iload 6, 2) := by decide +kernel
theorem dX11_early_54 : decode cX11_early 54 = .ok (.iload_n 2, 1) := by decide +kernel
theorem dX11_early_55 : decode cX11_early 55 = .ok (.if_icmp .ge 31, 3) := by decide +kernel
theorem dX11_early_58 : decode cX11_early 58 = .ok (.iload 5, 2) := by decide +kernel
theorem dX11_early_60 : decode cX11_early 60 = .ok (.iload 5, 2) := by decide +kernel
theorem dX11_early_62 : decode cX11_early 62 = .ok (.aload_n 0, 1) := by decide +kernel
theorem dX11_early_63 : decode cX11_early 63 = .ok (.getfield 233, 3) := by decide +kernel
theorem dX11_early_66 : decode cX11_early 66 = .ok (.iload_n 3, 1) := by decide +kernel
theorem dX11_early_67 : decode cX11_early 67 = .ok (.iload 6, 2) := by decide +kernel
theorem dX11_early_69 : decode cX11_early 69 = .ok (.iadd, 1) := by decide +kernel
theorem dX11_early_70 : decode cX11_early 70 = .ok (.bipush 7, 2) := by decide +kernel
theorem dX11_early_72 : decode cX11_early 72 = .ok (.irem, 1) := by decide +kernel
theorem dX11_early_73 : decode cX11_early 73 = .ok (.iaload, 1) := by decide +kernel
theorem dX11_early_74 : decode cX11_early 74 = .ok (.invokestatic 380, 3) := by decide +kernel
theorem dX11_early_77 : decode cX11_early 77 = .ok (.isub, 1) := by decide +kernel
theorem dX11_early_78 : decode cX11_early 78 = .ok (.istore 5, 2) := by decide +kernel
theorem dX11_early_80 : decode cX11_early 80 = .ok (.iinc 6 1, 3) := by decide +kernel
theorem dX11_early_83 : decode cX11_early 83 = .ok (.goto (-31), 3) := by decide +kernel
theorem dX11_early_86 : decode cX11_early 86 = .ok (.iload 5, 2) := by decide +kernel
theorem dX11_early_88 : decode cX11_early 88 = .ok (.iload_n 1, 1) := by decide +kernel
theorem dX11_early_89 : decode cX11_early 89 = .ok (.if_icmp .lt 6, 3) := by decide +kernel
theorem dX11_early_92 : decode cX11_early 92 = .ok (.iload 4, 2) := by decide +kernel
theorem dX11_early_94 : decode cX11_early 94 = .ok (.ireturn, 1) := by decide +kernel
theorem dX11_early_95 : decode cX11_early 95 = .ok (.iinc 4 1, 3) := by decide +kernel
theorem dX11_early_98 : decode cX11_early 98 = .ok (.goto (-61), 3) := by decide +kernel
theorem dX11_early_101 : decode cX11_early 101 = .ok (.iconst (-1), 1) := by decide +kernel
theorem dX11_early_102 : decode cX11_early 102 = .ok (.ireturn, 1) := by decide +kernel
theorem dX11_values_0 : decode cX11_values 0 = .ok (.aload_n 0, 1) := by decide +kernel
theorem dX11_values_1 : decode cX11_values 1 = .ok (.getfield 3, 3) := by decide +kernel
theorem dX11_values_4 : decode cX11_values 4 = .ok (.istore_n 1, 1) := by decide +kernel
theorem dX11_values_5 : decode cX11_values 5 = .ok (.aload_n 0, 1) := by decide +kernel
theorem dX11_values_6 : decode cX11_values 6 = .ok (.getfield 10, 3) := by decide +kernel
theorem dX11_values_9 : decode cX11_values 9 = .ok (.istore_n 2, 1) := by decide +kernel
theorem dX11_values_10 : decode cX11_values 10 = .ok (.aload_n 0, 1) := by decide +kernel
theorem dX11_values_11 : decode cX11_values 11 = .ok (.invokevirtual 323, 3) := by decide +kernel
theorem dX11_values_14 : decode cX11_values 14 = .ok (.iconst 1, 1) := by decide +kernel
theorem dX11_values_15 : decode cX11_values 15 = .ok (.istore_n 3, 1) := by decide +kernel
theorem dX11_values_16 : decode cX11_values 16 = .ok (.iconst 0, 1) := by decide +kernel
theorem dX11_values_17 : decode cX11_values 17 = .ok (.istore 4, 2) := by decide +kernel
theorem dX11_values_19 : decode cX11_values 19 = .ok (.iload 4, 2) := by decide +kernel
theorem dX11_values_21 : decode cX11_values 21 = .ok (.aload_n 0, 1) := by decide +kernel
theorem dX11_values_22 : decode cX11_values 22 = .ok (.getfield 329, 3) := by decide +kernel
theorem dX11_values_25 : decode cX11_values 25 = .ok (.if_icmp .ge 73, 3) := by decide +kernel
theorem dX11_values_28 : decode cX11_values 28 = .ok (.iload_n 3, 1) := by decide +kernel
theorem dX11_values_29 : decode cX11_values 29 = .ok (.ifCond .eq 69, 3) := by decide +kernel
theorem dX11_values_32 : decode cX11_values 32 = .ok (.iconst 0, 1) := by decide +kernel
theorem dX11_values_33 : decode cX11_values 33 = .ok (.istore 5, 2) := by decide +kernel
theorem dX11_values_35 : decode cX11_values 35 = .ok (.iload 5, 2) := by decide +kernel
theorem dX11_values_37 : decode cX11_values 37 = .ok (.iconst 2, 1) := by decide +kernel
theorem dX11_values_38 : decode cX11_values 38 = .ok (.if_icmp .ge 37, 3) := by decide +kernel
theorem dX11_values_41 : decode cX11_values 41 = .ok (.iload_n 3, 1) := by decide +kernel
theorem dX11_values_42 : decode cX11_values 42 = .ok (.ifCond .eq 33, 3) := by decide +kernel
theorem dX11_values_45 : decode cX11_values 45 = .ok (.aload_n 0, 1) := by decide +kernel
theorem dX11_values_46 : decode cX11_values 46 = .ok (.iconst 0, 1) := by decide +kernel
theorem dX11_values_47 : decode cX11_values 47 = .ok (.bipush 99, 2) := by decide +kernel
theorem dX11_values_49 : decode cX11_values 49 = .ok (.invokevirtual 81, 3) := by decide +kernel
theorem dX11_values_52 : decode cX11_values 52 = .ok (.istore_n 3, 1) := by decide +kernel
theorem dX11_values_53 : decode cX11_values 53 = .ok (.aload_n 0, 1) := by decide +kernel
theorem dX11_values_54 : decode cX11_values 54 = .ok (.getfield 316, 3) := by decide +kernel
theorem dX11_values_57 : decode cX11_values 57 = .ok (.iconst 2, 1) := by decide +kernel
theorem dX11_values_58 : decode cX11_values 58 = .ok (.iload 4, 2) := by decide +kernel
theorem dX11_values_60 : decode cX11_values 60 = .ok (.imul, 1) := by decide +kernel
theorem dX11_values_61 : decode cX11_values 61 = .ok (.iload 5, 2) := by decide +kernel
theorem dX11_values_63 : decode cX11_values 63 = .ok (.iadd, 1) := by decide +kernel
theorem dX11_values_64 : decode cX11_values 64 = .ok (.aload_n 0, 1) := by decide +kernel
theorem dX11_values_65 : decode cX11_values 65 = .ok (.getfield 56, 3) := by decide +kernel
theorem dX11_values_68 : decode cX11_values 68 = .ok (.iastore, 1) := by decide +kernel
theorem dX11_values_69 : decode cX11_values 69 = .ok (.iinc 5 1, 3) := by decide +kernel
theorem dX11_values_72 : decode cX11_values 72 = .ok (.goto (-37), 3) := by decide +kernel
theorem dX11_values_75 : decode cX11_values 75 = .ok (.iload_n 3, 1) := by decide +kernel
theorem dX11_values_76 : decode cX11_values 76 = .ok (.ifCond .eq 14, 3) := by decide +kernel
theorem dX11_values_79 : decode cX11_values 79 = .ok (.aload_n 0, 1) := by decide +kernel
theorem dX11_values_80 : decode cX11_values 80 = .ok (.invokevirtual 213, 3) := by decide +kernel
theorem dX11_values_83 : decode cX11_values 83 = .ok (.ifCond .eq 7, 3) := by decide +kernel
theorem dX11_values_86 : decode cX11_values 86 = .ok (.iconst 1, 1) := by decide +kernel
theorem dX11_values_87 : decode cX11_values 87 = .ok (.goto 4, 3) := by decide +kernel
theorem dX11_values_90 : decode cX11_values 90 = .ok (.iconst 0, 1) := by decide +kernel
theorem dX11_values_91 : decode cX11_values 91 = .ok (.istore_n 3, 1) := by decide +kernel
theorem dX11_values_92 : decode cX11_values 92 = .ok (.iinc 4 1, 3) := by decide +kernel
theorem dX11_values_95 : decode cX11_values 95 = .ok (.goto (-76), 3) := by decide +kernel
theorem dX11_values_98 : decode cX11_values 98 = .ok (.iload_n 3, 1) := by decide +kernel
theorem dX11_values_99 : decode cX11_values 99 = .ok (.ifCond .eq 14, 3) := by decide +kernel
theorem dX11_values_102 : decode cX11_values 102 = .ok (.aload_n 0, 1) := by decide +kernel
theorem dX11_values_103 : decode cX11_values 103 = .ok (.getfield 27, 3) := by decide +kernel
theorem dX11_values_106 : decode cX11_values 106 = .ok (.ifCond .ne 7, 3) := by decide +kernel
theorem dX11_values_109 : decode cX11_values 109 = .ok (.iconst 1, 1) := by decide +kernel
theorem dX11_values_110 : decode cX11_values 110 = .ok (.goto 4, 3) := by decide +kernel
theorem dX11_values_113 : decode cX11_values 113 = .ok (.iconst 0, 1) := by decide +kernel
theorem dX11_values_114 : decode cX11_values 114 = .ok (.istore_n 3, 1) := by decide +kernel
theorem dX11_values_115 : decode cX11_values 115 = .ok (.aload_n 0, 1) := by decide +kernel
theorem dX11_values_116 : decode cX11_values 116 = .ok (.iload_n 1, 1) := by decide +kernel
theorem dX11_values_117 : decode cX11_values 117 = .ok (.putfield 3, 3) := by decide +kernel
theorem dX11_values_120 : decode cX11_values 120 = .ok (.aload_n 0, 1) := by decide +kernel
theorem dX11_values_121 : decode cX11_values 121 = .ok (.iload_n 2, 1) := by decide +kernel
theorem dX11_values_122 : decode cX11_values 122 = .ok (.putfield 10, 3) := by decide +kernel
theorem dX11_values_125 : decode cX11_values 125 = .ok (.iload_n 3, 1) := by decide +kernel
theorem dX11_values_126 : decode cX11_values 126 = .ok (.ifCond .ne 5, 3) := by decide +kernel
theorem dX11_values_129 : decode cX11_values 129 = .ok (.iconst (-1), 1) := by decide +kernel
theorem dX11_values_130 : decode cX11_values 130 = .ok (.ireturn, 1) := by decide +kernel
theorem dX11_values_131 : decode cX11_values 131 = .ok (.iconst 0, 1) := by decide +kernel
theorem dX11_values_132 : decode cX11_values 132 = .ok (.istore 4, 2) := by decide +kernel
theorem dX11_values_134 : decode cX11_values 134 = .ok (.iload 4, 2) := by decide +kernel
theorem dX11_values_136 : decode cX11_values 136 = .ok (.aload_n 0, 1) := by decide +kernel
theorem dX11_values_137 : decode cX11_values 137 = .ok (.getfield 329, 3) := by decide +kernel
theorem dX11_values_140 : decode cX11_values 140 = .ok (.if_icmp .ge 43, 3) := by decide +kernel
theorem dX11_values_143 : decode cX11_values 143 = .ok (.aload_n 0, 1) := by decide +kernel
theorem dX11_values_144 : decode cX11_values 144 = .ok (.getfield 310, 3) := by decide +kernel
theorem dX11_values_147 : decode cX11_values 147 = .ok (.iload 4, 2) := by decide +kernel
theorem dX11_values_149 : decode cX11_values 149 = .ok (.aload_n 0, 1) := by decide +kernel
theorem dX11_values_150 : decode cX11_values 150 = .ok (.getfield 316, 3) := by decide +kernel
theorem dX11_values_153 : decode cX11_values 153 = .ok (.iconst 2, 1) := by decide +kernel
theorem dX11_values_154 : decode cX11_values 154 = .ok (.iload 4, 2) := by decide +kernel
theorem dX11_values_156 : decode cX11_values 156 = .ok (.imul, 1) := by decide +kernel
theorem dX11_values_157 : decode cX11_values 157 = .ok (.iaload, 1) := by decide +kernel
theorem dX11_values_158 : decode cX11_values 158 = .ok (.iastore, 1) := by decide +kernel
theorem dX11_values_159 : decode cX11_values 159 = .ok (.aload_n 0, 1) := by decide +kernel
theorem dX11_values_160 : decode cX11_values 160 = .ok (.getfield 313, 3) := by decide +kernel
theorem dX11_values_163 : decode cX11_values 163 = .ok (.iload 4, 2) := by decide +kernel
theorem dX11_values_165 : decode cX11_values 165 = .ok (.aload_n 0, 1) := by decide +kernel
theorem dX11_values_166 : decode cX11_values 166 = .ok (.getfield 316, 3) := by decide +kernel
theorem dX11_values_169 : decode cX11_values 169 = .ok (.iconst 2, 1) := by decide +kernel
theorem dX11_values_170 : decode cX11_values 170 = .ok (.iload 4, 2) := by decide +kernel
theorem dX11_values_172 : decode cX11_values 172 = .ok (.imul, 1) := by decide +kernel
theorem dX11_values_173 : decode cX11_values 173 = .ok (.iconst 1, 1) := by decide +kernel
theorem dX11_values_174 : decode cX11_values 174 = .ok (.iadd, 1) := by decide +kernel
theorem dX11_values_175 : decode cX11_values 175 = .ok (.iaload, 1) := by decide +kernel
theorem dX11_values_176 : decode cX11_values 176 = .ok (.iastore, 1) := by decide +kernel
theorem dX11_values_177 : decode cX11_values 177 = .ok (.iinc 4 1, 3) := by decide +kernel
theorem dX11_values_180 : decode cX11_values 180 = .ok (.goto (-46), 3) := by decide +kernel
theorem dX11_values_183 : decode cX11_values 183 = .ok (.iconst 1, 1) := by decide +kernel
theorem dX11_values_184 : decode cX11_values 184 = .ok (.ireturn, 1) := by decide +kernel
theorem dX11_findMeet_0 : decode cX11_findMeet 0 = .ok (.iconst 0, 1) := by decide +kernel
theorem dX11_findMeet_1 : decode cX11_findMeet 1 = .ok (.istore 6, 2) := by decide +kernel
theorem dX11_findMeet_3 : decode cX11_findMeet 3 = .ok (.iconst 0, 1) := by decide +kernel
theorem dX11_findMeet_4 : decode cX11_findMeet 4 = .ok (.istore 7, 2) := by decide +kernel
theorem dX11_findMeet_6 : decode cX11_findMeet 6 = .ok (.iconst 0, 1) := by decide +kernel
theorem dX11_findMeet_7 : decode cX11_findMeet 7 = .ok (.istore 8, 2) := by decide +kernel
theorem dX11_findMeet_9 : decode cX11_findMeet 9 = .ok (.iload 8, 2) := by decide +kernel
theorem dX11_findMeet_11 : decode cX11_findMeet 11 = .ok (.aload_n 0, 1) := by decide +kernel
theorem dX11_findMeet_12 : decode cX11_findMeet 12 = .ok (.getfield 329, 3) := by decide +kernel
theorem dX11_findMeet_15 : decode cX11_findMeet 15 = .ok (.if_icmp .ge 47, 3) := by decide +kernel
theorem dX11_findMeet_18 : decode cX11_findMeet 18 = .ok (.iload 7, 2) := by decide +kernel
theorem dX11_findMeet_20 : decode cX11_findMeet 20 = .ok (.aload_n 0, 1) := by decide +kernel
theorem dX11_findMeet_21 : decode cX11_findMeet 21 = .ok (.getfield 235, 3) := by decide +kernel
theorem dX11_findMeet_24 : decode cX11_findMeet 24 = .ok (.iload 8, 2) := by decide +kernel
theorem dX11_findMeet_26 : decode cX11_findMeet 26 = .ok (.iaload, 1) := by decide +kernel
theorem dX11_findMeet_27 : decode cX11_findMeet 27 = .ok (.iadd, 1) := by decide +kernel
theorem dX11_findMeet_28 : decode cX11_findMeet 28 = .ok (.istore 7, 2) := by decide +kernel
theorem dX11_findMeet_30 : decode cX11_findMeet 30 = .ok (.iload 6, 2) := by decide +kernel
theorem dX11_findMeet_32 : decode cX11_findMeet 32 = .ok (.iload_n 2, 1) := by decide +kernel
theorem dX11_findMeet_33 : decode cX11_findMeet 33 = .ok (.iload 8, 2) := by decide +kernel
theorem dX11_findMeet_35 : decode cX11_findMeet 35 = .ok (.ishr, 1) := by decide +kernel
theorem dX11_findMeet_36 : decode cX11_findMeet 36 = .ok (.iconst 1, 1) := by decide +kernel
theorem dX11_findMeet_37 : decode cX11_findMeet 37 = .ok (.iand, 1) := by decide +kernel
theorem dX11_findMeet_38 : decode cX11_findMeet 38 = .ok (.iconst 1, 1) := by decide +kernel
theorem dX11_findMeet_39 : decode cX11_findMeet 39 = .ok (.if_icmp .ne 13, 3) := by decide +kernel
theorem dX11_findMeet_42 : decode cX11_findMeet 42 = .ok (.aload_n 0, 1) := by decide +kernel
theorem dX11_findMeet_43 : decode cX11_findMeet 43 = .ok (.getfield 235, 3) := by decide +kernel
theorem dX11_findMeet_46 : decode cX11_findMeet 46 = .ok (.iload 8, 2) := by decide +kernel
theorem dX11_findMeet_48 : decode cX11_findMeet 48 = .ok (.iaload, 1) := by decide +kernel
theorem dX11_findMeet_49 : decode cX11_findMeet 49 = .ok (.goto 4, 3) := by decide +kernel
theorem dX11_findMeet_52 : decode cX11_findMeet 52 = .ok (.iconst 0, 1) := by decide +kernel
theorem dX11_findMeet_53 : decode cX11_findMeet 53 = .ok (.iadd, 1) := by decide +kernel
theorem dX11_findMeet_54 : decode cX11_findMeet 54 = .ok (.istore 6, 2) := by decide +kernel
theorem dX11_findMeet_56 : decode cX11_findMeet 56 = .ok (.iinc 8 1, 3) := by decide +kernel
theorem dX11_findMeet_59 : decode cX11_findMeet 59 = .ok (.goto (-50), 3) := by decide +kernel
theorem dX11_findMeet_62 : decode cX11_findMeet 62 = .ok (.ldc2_w 353, 3) := by decide +kernel
theorem dX11_findMeet_65 : decode cX11_findMeet 65 = .ok (.iload_n 3, 1) := by decide +kernel
theorem dX11_findMeet_66 : decode cX11_findMeet 66 = .ok (.i2l, 1) := by decide +kernel
theorem dX11_findMeet_67 : decode cX11_findMeet 67 = .ok (.lmul, 1) := by decide +kernel
theorem dX11_findMeet_68 : decode cX11_findMeet 68 = .ok (.iload 6, 2) := by decide +kernel
theorem dX11_findMeet_70 : decode cX11_findMeet 70 = .ok (.i2l, 1) := by decide +kernel
theorem dX11_findMeet_71 : decode cX11_findMeet 71 = .ok (.lmul, 1) := by decide +kernel
theorem dX11_findMeet_72 : decode cX11_findMeet 72 = .ok (.iload 7, 2) := by decide +kernel
theorem dX11_findMeet_74 : decode cX11_findMeet 74 = .ok (.i2l, 1) := by decide +kernel
theorem dX11_findMeet_75 : decode cX11_findMeet 75 = .ok (.ldiv, 1) := by decide +kernel
theorem dX11_findMeet_76 : decode cX11_findMeet 76 = .ok (.lstore 8, 2) := by decide +kernel
theorem dX11_findMeet_78 : decode cX11_findMeet 78 = .ok (.aload_n 0, 1) := by decide +kernel
theorem dX11_findMeet_79 : decode cX11_findMeet 79 = .ok (.lconst 0, 1) := by decide +kernel
theorem dX11_findMeet_80 : decode cX11_findMeet 80 = .ok (.putfield 527, 3) := by decide +kernel
theorem dX11_findMeet_83 : decode cX11_findMeet 83 = .ok (.aload_n 0, 1) := by decide +kernel
theorem dX11_findMeet_84 : decode cX11_findMeet 84 = .ok (.lconst 0, 1) := by decide +kernel
theorem dX11_findMeet_85 : decode cX11_findMeet 85 = .ok (.putfield 530, 3) := by decide +kernel
theorem dX11_findMeet_88 : decode cX11_findMeet 88 = .ok (.iconst 0, 1) := by decide +kernel
theorem dX11_findMeet_89 : decode cX11_findMeet 89 = .ok (.istore 10, 2) := by decide +kernel
theorem dX11_findMeet_91 : decode cX11_findMeet 91 = .ok (.iload 10, 2) := by decide +kernel
theorem dX11_findMeet_93 : decode cX11_findMeet 93 = .ok (.iload 5, 2) := by decide +kernel
theorem dX11_findMeet_95 : decode cX11_findMeet 95 = .ok (.if_icmp .ge 136, 3) := by decide +kernel
theorem dX11_findMeet_98 : decode cX11_findMeet 98 = .ok (.aload_n 0, 1) := by decide +kernel
theorem dX11_findMeet_99 : decode cX11_findMeet 99 = .ok (.getfield 527, 3) := by decide +kernel
theorem dX11_findMeet_102 : decode cX11_findMeet 102 = .ok (.lload 8, 2) := by decide +kernel
theorem dX11_findMeet_104 : decode cX11_findMeet 104 = .ok (.ldc2_w 488, 3) := by decide +kernel
theorem dX11_findMeet_107 : decode cX11_findMeet 107 = .ok (.aload_n 0, 1) := by decide +kernel
theorem dX11_findMeet_108 : decode cX11_findMeet 108 = .ok (.getfield 310, 3) := by decide +kernel
theorem dX11_findMeet_111 : decode cX11_findMeet 111 = .ok (.iload_n 1, 1) := by decide +kernel
theorem dX11_findMeet_112 : decode cX11_findMeet 112 = .ok (.iaload, 1) := by decide +kernel
theorem dX11_findMeet_113 : decode cX11_findMeet 113 = .ok (.i2l, 1) := by decide +kernel
theorem dX11_findMeet_114 : decode cX11_findMeet 114 = .ok (.lmul, 1) := by decide +kernel
theorem dX11_findMeet_115 : decode cX11_findMeet 115 = .ok (.aload_n 0, 1) := by decide +kernel
theorem dX11_findMeet_116 : decode cX11_findMeet 116 = .ok (.getfield 530, 3) := by decide +kernel
theorem dX11_findMeet_119 : decode cX11_findMeet 119 = .ok (.ladd, 1) := by decide +kernel
theorem dX11_findMeet_120 : decode cX11_findMeet 120 = .ok (.lmul, 1) := by decide +kernel
theorem dX11_findMeet_121 : decode cX11_findMeet 121 = .ok (.ldc2_w 488, 3) := by decide +kernel
theorem dX11_findMeet_124 : decode cX11_findMeet 124 = .ok (.lload 8, 2) := by decide +kernel
theorem dX11_findMeet_126 : decode cX11_findMeet 126 = .ok (.lsub, 1) := by decide +kernel
theorem dX11_findMeet_127 : decode cX11_findMeet 127 = .ok (.aload_n 0, 1) := by decide +kernel
theorem dX11_findMeet_128 : decode cX11_findMeet 128 = .ok (.getfield 527, 3) := by decide +kernel
theorem dX11_findMeet_131 : decode cX11_findMeet 131 = .ok (.lmul, 1) := by decide +kernel
theorem dX11_findMeet_132 : decode cX11_findMeet 132 = .ok (.ladd, 1) := by decide +kernel
theorem dX11_findMeet_133 : decode cX11_findMeet 133 = .ok (.ldc2_w 488, 3) := by decide +kernel
theorem dX11_findMeet_136 : decode cX11_findMeet 136 = .ok (.ldiv, 1) := by decide +kernel
theorem dX11_findMeet_137 : decode cX11_findMeet 137 = .ok (.invokestatic 533, 3) := by decide +kernel
theorem dX11_findMeet_140 : decode cX11_findMeet 140 = .ok (.lstore 11, 2) := by decide +kernel
theorem dX11_findMeet_142 : decode cX11_findMeet 142 = .ok (.iload_n 2, 1) := by decide +kernel
theorem dX11_findMeet_143 : decode cX11_findMeet 143 = .ok (.iload_n 1, 1) := by decide +kernel
theorem dX11_findMeet_144 : decode cX11_findMeet 144 = .ok (.ishr, 1) := by decide +kernel
theorem dX11_findMeet_145 : decode cX11_findMeet 145 = .ok (.iconst 1, 1) := by decide +kernel
theorem dX11_findMeet_146 : decode cX11_findMeet 146 = .ok (.iand, 1) := by decide +kernel
theorem dX11_findMeet_147 : decode cX11_findMeet 147 = .ok (.ifCond .ne 10, 3) := by decide +kernel
theorem dX11_findMeet_150 : decode cX11_findMeet 150 = .ok (.aload_n 0, 1) := by decide +kernel
theorem dX11_findMeet_151 : decode cX11_findMeet 151 = .ok (.getfield 530, 3) := by decide +kernel
theorem dX11_findMeet_154 : decode cX11_findMeet 154 = .ok (.goto 46, 3) := by decide +kernel
theorem dX11_findMeet_157 : decode cX11_findMeet 157 = .ok (.ldc2_w 353, 3) := by decide +kernel
theorem dX11_findMeet_160 : decode cX11_findMeet 160 = .ok (.iload_n 3, 1) := by decide +kernel
theorem dX11_findMeet_161 : decode cX11_findMeet 161 = .ok (.i2l, 1) := by decide +kernel
theorem dX11_findMeet_162 : decode cX11_findMeet 162 = .ok (.lmul, 1) := by decide +kernel
theorem dX11_findMeet_163 : decode cX11_findMeet 163 = .ok (.aload_n 0, 1) := by decide +kernel
theorem dX11_findMeet_164 : decode cX11_findMeet 164 = .ok (.getfield 527, 3) := by decide +kernel
theorem dX11_findMeet_167 : decode cX11_findMeet 167 = .ok (.ldc2_w 488, 3) := by decide +kernel
theorem dX11_findMeet_170 : decode cX11_findMeet 170 = .ok (.aload_n 0, 1) := by decide +kernel
theorem dX11_findMeet_171 : decode cX11_findMeet 171 = .ok (.getfield 313, 3) := by decide +kernel
theorem dX11_findMeet_174 : decode cX11_findMeet 174 = .ok (.iload_n 1, 1) := by decide +kernel
theorem dX11_findMeet_175 : decode cX11_findMeet 175 = .ok (.iaload, 1) := by decide +kernel
theorem dX11_findMeet_176 : decode cX11_findMeet 176 = .ok (.i2l, 1) := by decide +kernel
theorem dX11_findMeet_177 : decode cX11_findMeet 177 = .ok (.lmul, 1) := by decide +kernel
theorem dX11_findMeet_178 : decode cX11_findMeet 178 = .ok (.lsub, 1) := by decide +kernel
theorem dX11_findMeet_179 : decode cX11_findMeet 179 = .ok (.lmul, 1) := by decide +kernel
theorem dX11_findMeet_180 : decode cX11_findMeet 180 = .ok (.ldc2_w 488, 3) := by decide +kernel
theorem dX11_findMeet_183 : decode cX11_findMeet 183 = .ok (.ldc2_w 353, 3) := by decide +kernel
theorem dX11_findMeet_186 : decode cX11_findMeet 186 = .ok (.iload_n 3, 1) := by decide +kernel
theorem dX11_findMeet_187 : decode cX11_findMeet 187 = .ok (.i2l, 1) := by decide +kernel
theorem dX11_findMeet_188 : decode cX11_findMeet 188 = .ok (.lmul, 1) := by decide +kernel
theorem dX11_findMeet_189 : decode cX11_findMeet 189 = .ok (.lsub, 1) := by decide +kernel
theorem dX11_findMeet_190 : decode cX11_findMeet 190 = .ok (.aload_n 0, 1) := by decide +kernel
theorem dX11_findMeet_191 : decode cX11_findMeet 191 = .ok (.getfield 530, 3) := by decide +kernel
theorem dX11_findMeet_194 : decode cX11_findMeet 194 = .ok (.lmul, 1) := by decide +kernel
theorem dX11_findMeet_195 : decode cX11_findMeet 195 = .ok (.ladd, 1) := by decide +kernel
theorem dX11_findMeet_196 : decode cX11_findMeet 196 = .ok (.ldc2_w 488, 3) := by decide +kernel
theorem dX11_findMeet_199 : decode cX11_findMeet 199 = .ok (.ldiv, 1) := by decide +kernel
theorem dX11_findMeet_200 : decode cX11_findMeet 200 = .ok (.lstore 13, 2) := by decide +kernel
theorem dX11_findMeet_202 : decode cX11_findMeet 202 = .ok (.aload_n 0, 1) := by decide +kernel
theorem dX11_findMeet_203 : decode cX11_findMeet 203 = .ok (.lload 11, 2) := by decide +kernel
theorem dX11_findMeet_205 : decode cX11_findMeet 205 = .ok (.lload 11, 2) := by decide +kernel
theorem dX11_findMeet_207 : decode cX11_findMeet 207 = .ok (.iload 4, 2) := by decide +kernel
theorem dX11_findMeet_209 : decode cX11_findMeet 209 = .ok (.i2l, 1) := by decide +kernel
theorem dX11_findMeet_210 : decode cX11_findMeet 210 = .ok (.lmul, 1) := by decide +kernel
theorem dX11_findMeet_211 : decode cX11_findMeet 211 = .ok (.ldc2_w 488, 3) := by decide +kernel
theorem dX11_findMeet_214 : decode cX11_findMeet 214 = .ok (.ldiv, 1) := by decide +kernel
theorem dX11_findMeet_215 : decode cX11_findMeet 215 = .ok (.lsub, 1) := by decide +kernel
theorem dX11_findMeet_216 : decode cX11_findMeet 216 = .ok (.putfield 527, 3) := by decide +kernel
theorem dX11_findMeet_219 : decode cX11_findMeet 219 = .ok (.aload_n 0, 1) := by decide +kernel
theorem dX11_findMeet_220 : decode cX11_findMeet 220 = .ok (.lload 13, 2) := by decide +kernel
theorem dX11_findMeet_222 : decode cX11_findMeet 222 = .ok (.putfield 530, 3) := by decide +kernel
theorem dX11_findMeet_225 : decode cX11_findMeet 225 = .ok (.iinc 10 1, 3) := by decide +kernel
theorem dX11_findMeet_228 : decode cX11_findMeet 228 = .ok (.goto (-137), 3) := by decide +kernel
theorem dX11_findMeet_231 : decode cX11_findMeet 231 = .ok (.return_, 1) := by decide +kernel
theorem dX11_isMeet_0 : decode cX11_isMeet 0 = .ok (.iload_n 0, 1) := by decide +kernel
theorem dX11_isMeet_1 : decode cX11_isMeet 1 = .ok (.i2l, 1) := by decide +kernel
theorem dX11_isMeet_2 : decode cX11_isMeet 2 = .ok (.lconst 0, 1) := by decide +kernel
theorem dX11_isMeet_3 : decode cX11_isMeet 3 = .ok (.ldc2_w 517, 3) := by decide +kernel
theorem dX11_isMeet_6 : decode cX11_isMeet 6 = .ok (.invokestatic 52, 3) := by decide +kernel
theorem dX11_isMeet_9 : decode cX11_isMeet 9 = .ok (.ifCond .eq 31, 3) := by decide +kernel
theorem dX11_isMeet_12 : decode cX11_isMeet 12 = .ok (.iload_n 1, 1) := by decide +kernel
theorem dX11_isMeet_13 : decode cX11_isMeet 13 = .ok (.i2l, 1) := by decide +kernel
theorem dX11_isMeet_14 : decode cX11_isMeet 14 = .ok (.lconst 0, 1) := by decide +kernel
theorem dX11_isMeet_15 : decode cX11_isMeet 15 = .ok (.ldc2_w 536, 3) := by decide +kernel
theorem dX11_isMeet_18 : decode cX11_isMeet 18 = .ok (.invokestatic 52, 3) := by decide +kernel
theorem dX11_isMeet_21 : decode cX11_isMeet 21 = .ok (.ifCond .eq 19, 3) := by decide +kernel
theorem dX11_isMeet_24 : decode cX11_isMeet 24 = .ok (.iload_n 2, 1) := by decide +kernel
theorem dX11_isMeet_25 : decode cX11_isMeet 25 = .ok (.i2l, 1) := by decide +kernel
theorem dX11_isMeet_26 : decode cX11_isMeet 26 = .ok (.lconst 0, 1) := by decide +kernel
theorem dX11_isMeet_27 : decode cX11_isMeet 27 = .ok (.ldc2_w 538, 3) := by decide +kernel
theorem dX11_isMeet_30 : decode cX11_isMeet 30 = .ok (.invokestatic 52, 3) := by decide +kernel
theorem dX11_isMeet_33 : decode cX11_isMeet 33 = .ok (.ifCond .eq 7, 3) := by decide +kernel
theorem dX11_isMeet_36 : decode cX11_isMeet 36 = .ok (.iconst 1, 1) := by decide +kernel
theorem dX11_isMeet_37 : decode cX11_isMeet 37 = .ok (.goto 4, 3) := by decide +kernel
theorem dX11_isMeet_40 : decode cX11_isMeet 40 = .ok (.iconst 0, 1) := by decide +kernel
theorem dX11_isMeet_41 : decode cX11_isMeet 41 = .ok (.ireturn, 1) := by decide +kernel
theorem dX11_meet_0 : decode cX11_meet 0 = .ok (.aload_n 0, 1) := by decide +kernel
theorem dX11_meet_1 : decode cX11_meet 1 = .ok (.iload_n 1, 1) := by decide +kernel
theorem dX11_meet_2 : decode cX11_meet 2 = .ok (.invokevirtual 367, 3) := by decide +kernel
theorem dX11_meet_5 : decode cX11_meet 5 = .ok (.ifCond .eq 42, 3) := by decide +kernel
theorem dX11_meet_8 : decode cX11_meet 8 = .ok (.iload_n 2, 1) := by decide +kernel
theorem dX11_meet_9 : decode cX11_meet 9 = .ok (.i2l, 1) := by decide +kernel
theorem dX11_meet_10 : decode cX11_meet 10 = .ok (.lconst 0, 1) := by decide +kernel
theorem dX11_meet_11 : decode cX11_meet 11 = .ok (.lconst 1, 1) := by decide +kernel
theorem dX11_meet_12 : decode cX11_meet 12 = .ok (.aload_n 0, 1) := by decide +kernel
theorem dX11_meet_13 : decode cX11_meet 13 = .ok (.getfield 329, 3) := by decide +kernel
theorem dX11_meet_16 : decode cX11_meet 16 = .ok (.lshl, 1) := by decide +kernel
theorem dX11_meet_17 : decode cX11_meet 17 = .ok (.lconst 1, 1) := by decide +kernel
theorem dX11_meet_18 : decode cX11_meet 18 = .ok (.lsub, 1) := by decide +kernel
theorem dX11_meet_19 : decode cX11_meet 19 = .ok (.invokestatic 52, 3) := by decide +kernel
theorem dX11_meet_22 : decode cX11_meet 22 = .ok (.ifCond .eq 25, 3) := by decide +kernel
theorem dX11_meet_25 : decode cX11_meet 25 = .ok (.iload_n 3, 1) := by decide +kernel
theorem dX11_meet_26 : decode cX11_meet 26 = .ok (.iload 4, 2) := by decide +kernel
theorem dX11_meet_28 : decode cX11_meet 28 = .ok (.iload 5, 2) := by decide +kernel
theorem dX11_meet_30 : decode cX11_meet 30 = .ok (.invokestatic 540, 3) := by decide +kernel
theorem dX11_meet_33 : decode cX11_meet 33 = .ok (.ifCond .eq 14, 3) := by decide +kernel
theorem dX11_meet_36 : decode cX11_meet 36 = .ok (.iload 6, 2) := by decide +kernel
theorem dX11_meet_38 : decode cX11_meet 38 = .ok (.i2l, 1) := by decide +kernel
theorem dX11_meet_39 : decode cX11_meet 39 = .ok (.lconst 0, 1) := by decide +kernel
theorem dX11_meet_40 : decode cX11_meet 40 = .ok (.lconst 1, 1) := by decide +kernel
theorem dX11_meet_41 : decode cX11_meet 41 = .ok (.invokestatic 52, 3) := by decide +kernel
theorem dX11_meet_44 : decode cX11_meet 44 = .ok (.ifCond .ne 7, 3) := by decide +kernel
theorem dX11_meet_47 : decode cX11_meet 47 = .ok (.ldc_w 544, 3) := by decide +kernel
theorem dX11_meet_50 : decode cX11_meet 50 = .ok (.ireturn, 1) := by decide +kernel
theorem dX11_meet_51 : decode cX11_meet 51 = .ok (.aload_n 0, 1) := by decide +kernel
theorem dX11_meet_52 : decode cX11_meet 52 = .ok (.iload_n 1, 1) := by decide +kernel
theorem dX11_meet_53 : decode cX11_meet 53 = .ok (.iload_n 2, 1) := by decide +kernel
theorem dX11_meet_54 : decode cX11_meet 54 = .ok (.iload_n 3, 1) := by decide +kernel
theorem dX11_meet_55 : decode cX11_meet 55 = .ok (.iload 4, 2) := by decide +kernel
theorem dX11_meet_57 : decode cX11_meet 57 = .ok (.iload 5, 2) := by decide +kernel
theorem dX11_meet_59 : decode cX11_meet 59 = .ok (.invokevirtual 545, 3) := by decide +kernel
theorem dX11_meet_62 : decode cX11_meet 62 = .ok (.iload 6, 2) := by decide +kernel
theorem dX11_meet_64 : decode cX11_meet 64 = .ok (.ifCond .ne 10, 3) := by decide +kernel
theorem dX11_meet_67 : decode cX11_meet 67 = .ok (.aload_n 0, 1) := by decide +kernel
theorem dX11_meet_68 : decode cX11_meet 68 = .ok (.getfield 527, 3) := by decide +kernel
theorem dX11_meet_71 : decode cX11_meet 71 = .ok (.goto 7, 3) := by decide +kernel
theorem dX11_meet_74 : decode cX11_meet 74 = .ok (.aload_n 0, 1) := by decide +kernel
theorem dX11_meet_75 : decode cX11_meet 75 = .ok (.getfield 530, 3) := by decide +kernel
theorem dX11_meet_78 : decode cX11_meet 78 = .ok (.l2i, 1) := by decide +kernel
theorem dX11_meet_79 : decode cX11_meet 79 = .ok (.ireturn, 1) := by decide +kernel
theorem dX11_rests_0 : decode cX11_rests 0 = .ok (.iload_n 1, 1) := by decide +kernel
theorem dX11_rests_1 : decode cX11_rests 1 = .ok (.iload_n 2, 1) := by decide +kernel
theorem dX11_rests_2 : decode cX11_rests 2 = .ok (.iload_n 3, 1) := by decide +kernel
theorem dX11_rests_3 : decode cX11_rests 3 = .ok (.invokestatic 540, 3) := by decide +kernel
theorem dX11_rests_6 : decode cX11_rests 6 = .ok (.ifCond .ne 6, 3) := by decide +kernel
theorem dX11_rests_9 : decode cX11_rests 9 = .ok (.bipush (-2), 2) := by decide +kernel
theorem dX11_rests_11 : decode cX11_rests 11 = .ok (.ireturn, 1) := by decide +kernel
theorem dX11_rests_12 : decode cX11_rests 12 = .ok (.iconst 0, 1) := by decide +kernel
theorem dX11_rests_13 : decode cX11_rests 13 = .ok (.istore 4, 2) := by decide +kernel
theorem dX11_rests_15 : decode cX11_rests 15 = .ok (.iconst 0, 1) := by decide +kernel
theorem dX11_rests_16 : decode cX11_rests 16 = .ok (.istore 5, 2) := by decide +kernel
theorem dX11_rests_18 : decode cX11_rests 18 = .ok (.iload 5, 2) := by decide +kernel
theorem dX11_rests_20 : decode cX11_rests 20 = .ok (.iconst 1, 1) := by decide +kernel
theorem dX11_rests_21 : decode cX11_rests 21 = .ok (.aload_n 0, 1) := by decide +kernel
theorem dX11_rests_22 : decode cX11_rests 22 = .ok (.getfield 329, 3) := by decide +kernel
theorem dX11_rests_25 : decode cX11_rests 25 = .ok (.ishl, 1) := by decide +kernel
theorem dX11_rests_26 : decode cX11_rests 26 = .ok (.if_icmp .ge 120, 3) := by decide +kernel
theorem dX11_rests_29 : decode cX11_rests 29 = .ok (.iconst 1, 1) := by decide +kernel
theorem dX11_rests_30 : decode cX11_rests 30 = .ok (.istore 6, 2) := by decide +kernel
theorem dX11_rests_32 : decode cX11_rests 32 = .ok (.iconst 0, 1) := by decide +kernel
theorem dX11_rests_33 : decode cX11_rests 33 = .ok (.istore 7, 2) := by decide +kernel
theorem dX11_rests_35 : decode cX11_rests 35 = .ok (.iload 7, 2) := by decide +kernel
theorem dX11_rests_37 : decode cX11_rests 37 = .ok (.aload_n 0, 1) := by decide +kernel
theorem dX11_rests_38 : decode cX11_rests 38 = .ok (.getfield 329, 3) := by decide +kernel
theorem dX11_rests_41 : decode cX11_rests 41 = .ok (.if_icmp .ge 81, 3) := by decide +kernel
theorem dX11_rests_44 : decode cX11_rests 44 = .ok (.iload 6, 2) := by decide +kernel
theorem dX11_rests_46 : decode cX11_rests 46 = .ok (.ifCond .eq 76, 3) := by decide +kernel
theorem dX11_rests_49 : decode cX11_rests 49 = .ok (.aload_n 0, 1) := by decide +kernel
theorem dX11_rests_50 : decode cX11_rests 50 = .ok (.iload 7, 2) := by decide +kernel
theorem dX11_rests_52 : decode cX11_rests 52 = .ok (.iload 5, 2) := by decide +kernel
theorem dX11_rests_54 : decode cX11_rests 54 = .ok (.iload_n 1, 1) := by decide +kernel
theorem dX11_rests_55 : decode cX11_rests 55 = .ok (.iload_n 2, 1) := by decide +kernel
theorem dX11_rests_56 : decode cX11_rests 56 = .ok (.iload_n 3, 1) := by decide +kernel
theorem dX11_rests_57 : decode cX11_rests 57 = .ok (.invokevirtual 545, 3) := by decide +kernel
theorem dX11_rests_60 : decode cX11_rests 60 = .ok (.aload_n 0, 1) := by decide +kernel
theorem dX11_rests_61 : decode cX11_rests 61 = .ok (.getfield 527, 3) := by decide +kernel
theorem dX11_rests_64 : decode cX11_rests 64 = .ok (.aload_n 0, 1) := by decide +kernel
theorem dX11_rests_65 : decode cX11_rests 65 = .ok (.getfield 530, 3) := by decide +kernel
theorem dX11_rests_68 : decode cX11_rests 68 = .ok (.lsub, 1) := by decide +kernel
theorem dX11_rests_69 : decode cX11_rests 69 = .ok (.ldc2_w 488, 3) := by decide +kernel
theorem dX11_rests_72 : decode cX11_rests 72 = .ok (.aload_n 0, 1) := by decide +kernel
theorem dX11_rests_73 : decode cX11_rests 73 = .ok (.getfield 313, 3) := by decide +kernel
theorem dX11_rests_76 : decode cX11_rests 76 = .ok (.iload 7, 2) := by decide +kernel
theorem dX11_rests_78 : decode cX11_rests 78 = .ok (.iaload, 1) := by decide +kernel
theorem dX11_rests_79 : decode cX11_rests 79 = .ok (.i2l, 1) := by decide +kernel
theorem dX11_rests_80 : decode cX11_rests 80 = .ok (.lmul, 1) := by decide +kernel
theorem dX11_rests_81 : decode cX11_rests 81 = .ok (.lcmp, 1) := by decide +kernel
theorem dX11_rests_82 : decode cX11_rests 82 = .ok (.ifCond .lt 7, 3) := by decide +kernel
theorem dX11_rests_85 : decode cX11_rests 85 = .ok (.iconst 1, 1) := by decide +kernel
theorem dX11_rests_86 : decode cX11_rests 86 = .ok (.goto 4, 3) := by decide +kernel
theorem dX11_rests_89 : decode cX11_rests 89 = .ok (.iconst 0, 1) := by decide +kernel
theorem dX11_rests_90 : decode cX11_rests 90 = .ok (.iload 5, 2) := by decide +kernel
theorem dX11_rests_92 : decode cX11_rests 92 = .ok (.iload 7, 2) := by decide +kernel
theorem dX11_rests_94 : decode cX11_rests 94 = .ok (.ishr, 1) := by decide +kernel
theorem dX11_rests_95 : decode cX11_rests 95 = .ok (.iconst 1, 1) := by decide +kernel
theorem dX11_rests_96 : decode cX11_rests 96 = .ok (.iand, 1) := by decide +kernel
theorem dX11_rests_97 : decode cX11_rests 97 = .ok (.iconst 1, 1) := by decide +kernel
theorem dX11_rests_98 : decode cX11_rests 98 = .ok (.if_icmp .ne 7, 3) := by decide +kernel
theorem dX11_rests_101 : decode cX11_rests 101 = .ok (.iconst 1, 1) := by decide +kernel
theorem dX11_rests_102 : decode cX11_rests 102 = .ok (.goto 4, 3) := by decide +kernel
theorem dX11_rests_105 : decode cX11_rests 105 = .ok (.iconst 0, 1) := by decide +kernel
theorem dX11_rests_106 : decode cX11_rests 106 = .ok (.if_icmp .ne 7, 3) := by decide +kernel
theorem dX11_rests_109 : decode cX11_rests 109 = .ok (.iconst 1, 1) := by decide +kernel
theorem dX11_rests_110 : decode cX11_rests 110 = .ok (.goto 4, 3) := by decide +kernel
theorem dX11_rests_113 : decode cX11_rests 113 = .ok (.iconst 0, 1) := by decide +kernel
theorem dX11_rests_114 : decode cX11_rests 114 = .ok (.istore 6, 2) := by decide +kernel
theorem dX11_rests_116 : decode cX11_rests 116 = .ok (.iinc 7 1, 3) := by decide +kernel
theorem dX11_rests_119 : decode cX11_rests 119 = .ok (.goto (-84), 3) := by decide +kernel
theorem dX11_rests_122 : decode cX11_rests 122 = .ok (.iload 4, 2) := by decide +kernel
theorem dX11_rests_124 : decode cX11_rests 124 = .ok (.iload 6, 2) := by decide +kernel
theorem dX11_rests_126 : decode cX11_rests 126 = .ok (.ifCond .eq 10, 3) := by decide +kernel
theorem dX11_rests_129 : decode cX11_rests 129 = .ok (.iconst 1, 1) := by decide +kernel
theorem dX11_rests_130 : decode cX11_rests 130 = .ok (.iload 5, 2) := by decide +kernel
theorem dX11_rests_132 : decode cX11_rests 132 = .ok (.ishl, 1) := by decide +kernel
theorem dX11_rests_133 : decode cX11_rests 133 = .ok (.goto 4, 3) := by decide +kernel
theorem dX11_rests_136 : decode cX11_rests 136 = .ok (.iconst 0, 1) := by decide +kernel
theorem dX11_rests_137 : decode cX11_rests 137 = .ok (.ior, 1) := by decide +kernel
theorem dX11_rests_138 : decode cX11_rests 138 = .ok (.istore 4, 2) := by decide +kernel
theorem dX11_rests_140 : decode cX11_rests 140 = .ok (.iinc 5 1, 3) := by decide +kernel
theorem dX11_rests_143 : decode cX11_rests 143 = .ok (.goto (-125), 3) := by decide +kernel
theorem dX11_rests_146 : decode cX11_rests 146 = .ok (.iload 4, 2) := by decide +kernel
theorem dX11_rests_148 : decode cX11_rests 148 = .ok (.ireturn, 1) := by decide +kernel
theorem dX11_isLost_0 : decode cX11_isLost 0 = .ok (.bipush 7, 2) := by decide +kernel
theorem dX11_isLost_2 : decode cX11_isLost 2 = .ok (.iload_n 1, 1) := by decide +kernel
theorem dX11_isLost_3 : decode cX11_isLost 3 = .ok (.imul, 1) := by decide +kernel
theorem dX11_isLost_4 : decode cX11_isLost 4 = .ok (.iload_n 3, 1) := by decide +kernel
theorem dX11_isLost_5 : decode cX11_isLost 5 = .ok (.iadd, 1) := by decide +kernel
theorem dX11_isLost_6 : decode cX11_isLost 6 = .ok (.istore 6, 2) := by decide +kernel
theorem dX11_isLost_8 : decode cX11_isLost 8 = .ok (.aload_n 0, 1) := by decide +kernel
theorem dX11_isLost_9 : decode cX11_isLost 9 = .ok (.getfield 261, 3) := by decide +kernel
theorem dX11_isLost_12 : decode cX11_isLost 12 = .ok (.iload 6, 2) := by decide +kernel
theorem dX11_isLost_14 : decode cX11_isLost 14 = .ok (.iaload, 1) := by decide +kernel
theorem dX11_isLost_15 : decode cX11_isLost 15 = .ok (.iload_n 2, 1) := by decide +kernel
theorem dX11_isLost_16 : decode cX11_isLost 16 = .ok (.if_icmp .ne 15, 3) := by decide +kernel
theorem dX11_isLost_19 : decode cX11_isLost 19 = .ok (.aload_n 0, 1) := by decide +kernel
theorem dX11_isLost_20 : decode cX11_isLost 20 = .ok (.getfield 264, 3) := by decide +kernel
theorem dX11_isLost_23 : decode cX11_isLost 23 = .ok (.iload 6, 2) := by decide +kernel
theorem dX11_isLost_25 : decode cX11_isLost 25 = .ok (.iaload, 1) := by decide +kernel
theorem dX11_isLost_26 : decode cX11_isLost 26 = .ok (.iload 4, 2) := by decide +kernel
theorem dX11_isLost_28 : decode cX11_isLost 28 = .ok (.if_icmp .ge 5, 3) := by decide +kernel
theorem dX11_isLost_31 : decode cX11_isLost 31 = .ok (.iconst 1, 1) := by decide +kernel
theorem dX11_isLost_32 : decode cX11_isLost 32 = .ok (.ireturn, 1) := by decide +kernel
theorem dX11_isLost_33 : decode cX11_isLost 33 = .ok (.aload_n 0, 1) := by decide +kernel
theorem dX11_isLost_34 : decode cX11_isLost 34 = .ok (.getfield 267, 3) := by decide +kernel
theorem dX11_isLost_37 : decode cX11_isLost 37 = .ok (.iload 6, 2) := by decide +kernel
theorem dX11_isLost_39 : decode cX11_isLost 39 = .ok (.iaload, 1) := by decide +kernel
theorem dX11_isLost_40 : decode cX11_isLost 40 = .ok (.iload 5, 2) := by decide +kernel
theorem dX11_isLost_42 : decode cX11_isLost 42 = .ok (.if_icmp .ge 43, 3) := by decide +kernel
theorem dX11_isLost_45 : decode cX11_isLost 45 = .ok (.aload_n 0, 1) := by decide +kernel
theorem dX11_isLost_46 : decode cX11_isLost 46 = .ok (.getfield 233, 3) := by decide +kernel
theorem dX11_isLost_49 : decode cX11_isLost 49 = .ok (.iload_n 3, 1) := by decide +kernel
theorem dX11_isLost_50 : decode cX11_isLost 50 = .ok (.iaload, 1) := by decide +kernel
theorem dX11_isLost_51 : decode cX11_isLost 51 = .ok (.ifCond .le 30, 3) := by decide +kernel
theorem dX11_isLost_54 : decode cX11_isLost 54 = .ok (.aload_n 0, 1) := by decide +kernel
theorem dX11_isLost_55 : decode cX11_isLost 55 = .ok (.getfield 267, 3) := by decide +kernel
theorem dX11_isLost_58 : decode cX11_isLost 58 = .ok (.iload 6, 2) := by decide +kernel
theorem dX11_isLost_60 : decode cX11_isLost 60 = .ok (.iaload, 1) := by decide +kernel
theorem dX11_isLost_61 : decode cX11_isLost 61 = .ok (.sipush 1000, 3) := by decide +kernel
theorem dX11_isLost_64 : decode cX11_isLost 64 = .ok (.imul, 1) := by decide +kernel
theorem dX11_isLost_65 : decode cX11_isLost 65 = .ok (.iload 5, 2) := by decide +kernel
theorem dX11_isLost_67 : decode cX11_isLost 67 = .ok (.sipush 1000, 3) := by decide +kernel
theorem dX11_isLost_70 : decode cX11_isLost 70 = .ok (.aload_n 0, 1) := by decide +kernel
theorem dX11_isLost_71 : decode cX11_isLost 71 = .ok (.getfield 233, 3) := by decide +kernel
theorem dX11_isLost_74 : decode cX11_isLost 74 = .ok (.iload_n 3, 1) := by decide +kernel
theorem dX11_isLost_75 : decode cX11_isLost 75 = .ok (.iaload, 1) := by decide +kernel
theorem dX11_isLost_76 : decode cX11_isLost 76 = .ok (.isub, 1) := by decide +kernel
theorem dX11_isLost_77 : decode cX11_isLost 77 = .ok (.imul, 1) := by decide +kernel
theorem dX11_isLost_78 : decode cX11_isLost 78 = .ok (.if_icmp .ge 7, 3) := by decide +kernel
theorem dX11_isLost_81 : decode cX11_isLost 81 = .ok (.iconst 1, 1) := by decide +kernel
theorem dX11_isLost_82 : decode cX11_isLost 82 = .ok (.goto 4, 3) := by decide +kernel
theorem dX11_isLost_85 : decode cX11_isLost 85 = .ok (.iconst 0, 1) := by decide +kernel
theorem dX11_isLost_86 : decode cX11_isLost 86 = .ok (.ireturn, 1) := by decide +kernel
theorem dX11_book_0 : decode cX11_book 0 = .ok (.aload_n 0, 1) := by decide +kernel
theorem dX11_book_1 : decode cX11_book 1 = .ok (.invokevirtual 323, 3) := by decide +kernel
theorem dX11_book_4 : decode cX11_book 4 = .ok (.bipush (-3), 2) := by decide +kernel
theorem dX11_book_6 : decode cX11_book 6 = .ok (.istore_n 1, 1) := by decide +kernel
theorem dX11_book_7 : decode cX11_book 7 = .ok (.iconst 0, 1) := by decide +kernel
theorem dX11_book_8 : decode cX11_book 8 = .ok (.istore_n 2, 1) := by decide +kernel
theorem dX11_book_9 : decode cX11_book 9 = .ok (.aload_n 0, 1) := by decide +kernel
theorem dX11_book_10 : decode cX11_book 10 = .ok (.getfield 27, 3) := by decide +kernel
theorem dX11_book_13 : decode cX11_book 13 = .ok (.ifCond .eq 140, 3) := by decide +kernel
theorem dX11_book_16 : decode cX11_book 16 = .ok (.aload_n 0, 1) := by decide +kernel
theorem dX11_book_17 : decode cX11_book 17 = .ok (.aload_n 0, 1) := by decide +kernel
theorem dX11_book_18 : decode cX11_book 18 = .ok (.getfield 227, 3) := by decide +kernel
theorem dX11_book_21 : decode cX11_book 21 = .ok (.aload_n 0, 1) := by decide +kernel
theorem dX11_book_22 : decode cX11_book 22 = .ok (.getfield 329, 3) := by decide +kernel
theorem dX11_book_25 : decode cX11_book 25 = .ok (.invokevirtual 147, 3) := by decide +kernel
theorem dX11_book_28 : decode cX11_book 28 = .ok (.ifCond .ne 5, 3) := by decide +kernel
theorem dX11_book_31 : decode cX11_book 31 = .ok (.iconst (-1), 1) := by decide +kernel
theorem dX11_book_32 : decode cX11_book 32 = .ok (.ireturn, 1) := by decide +kernel
theorem dX11_book_33 : decode cX11_book 33 = .ok (.aload_n 0, 1) := by decide +kernel
theorem dX11_book_34 : decode cX11_book 34 = .ok (.getfield 56, 3) := by decide +kernel
theorem dX11_book_37 : decode cX11_book 37 = .ok (.istore_n 3, 1) := by decide +kernel
theorem dX11_book_38 : decode cX11_book 38 = .ok (.aload_n 0, 1) := by decide +kernel
theorem dX11_book_39 : decode cX11_book 39 = .ok (.aload_n 0, 1) := by decide +kernel
theorem dX11_book_40 : decode cX11_book 40 = .ok (.getfield 230, 3) := by decide +kernel
theorem dX11_book_43 : decode cX11_book 43 = .ok (.aload_n 0, 1) := by decide +kernel
theorem dX11_book_44 : decode cX11_book 44 = .ok (.getfield 332, 3) := by decide +kernel
theorem dX11_book_47 : decode cX11_book 47 = .ok (.invokevirtual 147, 3) := by decide +kernel
theorem dX11_book_50 : decode cX11_book 50 = .ok (.ifCond .ne 5, 3) := by decide +kernel
theorem dX11_book_53 : decode cX11_book 53 = .ok (.iconst (-1), 1) := by decide +kernel
theorem dX11_book_54 : decode cX11_book 54 = .ok (.ireturn, 1) := by decide +kernel
theorem dX11_book_55 : decode cX11_book 55 = .ok (.aload_n 0, 1) := by decide +kernel
theorem dX11_book_56 : decode cX11_book 56 = .ok (.getfield 56, 3) := by decide +kernel
theorem dX11_book_59 : decode cX11_book 59 = .ok (.istore 4, 2) := by decide +kernel
theorem dX11_book_61 : decode cX11_book 61 = .ok (.aload_n 0, 1) := by decide +kernel
theorem dX11_book_62 : decode cX11_book 62 = .ok (.iconst 0, 1) := by decide +kernel
theorem dX11_book_63 : decode cX11_book 63 = .ok (.bipush 6, 2) := by decide +kernel
theorem dX11_book_65 : decode cX11_book 65 = .ok (.invokevirtual 81, 3) := by decide +kernel
theorem dX11_book_68 : decode cX11_book 68 = .ok (.ifCond .ne 5, 3) := by decide +kernel
theorem dX11_book_71 : decode cX11_book 71 = .ok (.iconst (-1), 1) := by decide +kernel
theorem dX11_book_72 : decode cX11_book 72 = .ok (.ireturn, 1) := by decide +kernel
theorem dX11_book_73 : decode cX11_book 73 = .ok (.aload_n 0, 1) := by decide +kernel
theorem dX11_book_74 : decode cX11_book 74 = .ok (.getfield 56, 3) := by decide +kernel
theorem dX11_book_77 : decode cX11_book 77 = .ok (.istore 5, 2) := by decide +kernel
theorem dX11_book_79 : decode cX11_book 79 = .ok (.aload_n 0, 1) := by decide +kernel
theorem dX11_book_80 : decode cX11_book 80 = .ok (.iconst 1, 1) := by decide +kernel
theorem dX11_book_81 : decode cX11_book 81 = .ok (.iconst 3, 1) := by decide +kernel
theorem dX11_book_82 : decode cX11_book 82 = .ok (.invokevirtual 81, 3) := by decide +kernel
theorem dX11_book_85 : decode cX11_book 85 = .ok (.ifCond .ne 5, 3) := by decide +kernel
theorem dX11_book_88 : decode cX11_book 88 = .ok (.iconst (-1), 1) := by decide +kernel
theorem dX11_book_89 : decode cX11_book 89 = .ok (.ireturn, 1) := by decide +kernel
theorem dX11_book_90 : decode cX11_book 90 = .ok (.aload_n 0, 1) := by decide +kernel
theorem dX11_book_91 : decode cX11_book 91 = .ok (.getfield 56, 3) := by decide +kernel
theorem dX11_book_94 : decode cX11_book 94 = .ok (.istore 6, 2) := by decide +kernel
theorem dX11_book_96 : decode cX11_book 96 = .ok (.aload_n 0, 1) := by decide +kernel
theorem dX11_book_97 : decode cX11_book 97 = .ok (.iconst 1, 1) := by decide +kernel
theorem dX11_book_98 : decode cX11_book 98 = .ok (.bipush 99, 2) := by decide +kernel
theorem dX11_book_100 : decode cX11_book 100 = .ok (.invokevirtual 81, 3) := by decide +kernel
theorem dX11_book_103 : decode cX11_book 103 = .ok (.ifCond .ne 5, 3) := by decide +kernel
theorem dX11_book_106 : decode cX11_book 106 = .ok (.iconst (-1), 1) := by decide +kernel
theorem dX11_book_107 : decode cX11_book 107 = .ok (.ireturn, 1) := by decide +kernel
theorem dX11_book_108 : decode cX11_book 108 = .ok (.aload_n 0, 1) := by decide +kernel
theorem dX11_book_109 : decode cX11_book 109 = .ok (.getfield 56, 3) := by decide +kernel
theorem dX11_book_112 : decode cX11_book 112 = .ok (.istore 7, 2) := by decide +kernel
theorem dX11_book_114 : decode cX11_book 114 = .ok (.aload_n 0, 1) := by decide +kernel
theorem dX11_book_115 : decode cX11_book 115 = .ok (.invokevirtual 213, 3) := by decide +kernel
theorem dX11_book_118 : decode cX11_book 118 = .ok (.ifCond .ne 5, 3) := by decide +kernel
theorem dX11_book_121 : decode cX11_book 121 = .ok (.iconst (-1), 1) := by decide +kernel
theorem dX11_book_122 : decode cX11_book 122 = .ok (.ireturn, 1) := by decide +kernel
theorem dX11_book_123 : decode cX11_book 123 = .ok (.iload_n 1, 1) := by decide +kernel
theorem dX11_book_124 : decode cX11_book 124 = .ok (.bipush (-3), 2) := by decide +kernel
theorem dX11_book_126 : decode cX11_book 126 = .ok (.if_icmp .ne 21, 3) := by decide +kernel
theorem dX11_book_129 : decode cX11_book 129 = .ok (.aload_n 0, 1) := by decide +kernel
theorem dX11_book_130 : decode cX11_book 130 = .ok (.iload_n 3, 1) := by decide +kernel
theorem dX11_book_131 : decode cX11_book 131 = .ok (.iload 4, 2) := by decide +kernel
theorem dX11_book_133 : decode cX11_book 133 = .ok (.iload 5, 2) := by decide +kernel
theorem dX11_book_135 : decode cX11_book 135 = .ok (.iload 6, 2) := by decide +kernel
theorem dX11_book_137 : decode cX11_book 137 = .ok (.iload 7, 2) := by decide +kernel
theorem dX11_book_139 : decode cX11_book 139 = .ok (.invokevirtual 549, 3) := by decide +kernel
theorem dX11_book_142 : decode cX11_book 142 = .ok (.ifCond .eq 5, 3) := by decide +kernel
theorem dX11_book_145 : decode cX11_book 145 = .ok (.iload_n 2, 1) := by decide +kernel
theorem dX11_book_146 : decode cX11_book 146 = .ok (.istore_n 1, 1) := by decide +kernel
theorem dX11_book_147 : decode cX11_book 147 = .ok (.iinc 2 1, 3) := by decide +kernel
theorem dX11_book_150 : decode cX11_book 150 = .ok (.goto (-141), 3) := by decide +kernel
theorem dX11_book_153 : decode cX11_book 153 = .ok (.iload_n 1, 1) := by decide +kernel
theorem dX11_book_154 : decode cX11_book 154 = .ok (.ireturn, 1) := by decide +kernel
theorem dX11_count_0 : decode cX11_count 0 = .ok (.iload_n 1, 1) := by decide +kernel
theorem dX11_count_1 : decode cX11_count 1 = .ok (.ifCond .ne 10, 3) := by decide +kernel
theorem dX11_count_4 : decode cX11_count 4 = .ok (.aload_n 0, 1) := by decide +kernel
theorem dX11_count_5 : decode cX11_count 5 = .ok (.getfield 335, 3) := by decide +kernel
theorem dX11_count_8 : decode cX11_count 8 = .ok (.goto 16, 3) := by decide +kernel
theorem dX11_count_11 : decode cX11_count 11 = .ok (.iload_n 1, 1) := by decide +kernel
theorem dX11_count_12 : decode cX11_count 12 = .ok (.iconst 1, 1) := by decide +kernel
theorem dX11_count_13 : decode cX11_count 13 = .ok (.if_icmp .ne 10, 3) := by decide +kernel
theorem dX11_count_16 : decode cX11_count 16 = .ok (.aload_n 0, 1) := by decide +kernel
theorem dX11_count_17 : decode cX11_count 17 = .ok (.getfield 75, 3) := by decide +kernel
theorem dX11_count_20 : decode cX11_count 20 = .ok (.goto 4, 3) := by decide +kernel
theorem dX11_count_23 : decode cX11_count 23 = .ok (.iconst (-1), 1) := by decide +kernel
theorem dX11_count_24 : decode cX11_count 24 = .ok (.ireturn, 1) := by decide +kernel
theorem dJ9_floorMod_7cf53_0 : decode cJ9_floorMod_7cf53 0 = .ok (.iload_n 0, 1) := by decide +kernel
theorem dJ9_floorMod_7cf53_1 : decode cJ9_floorMod_7cf53 1 = .ok (.iload_n 1, 1) := by decide +kernel
theorem dJ9_floorMod_7cf53_2 : decode cJ9_floorMod_7cf53 2 = .ok (.irem, 1) := by decide +kernel
theorem dJ9_floorMod_7cf53_3 : decode cJ9_floorMod_7cf53 3 = .ok (.istore_n 2, 1) := by decide +kernel
theorem dJ9_floorMod_7cf53_4 : decode cJ9_floorMod_7cf53 4 = .ok (.iload_n 0, 1) := by decide +kernel
theorem dJ9_floorMod_7cf53_5 : decode cJ9_floorMod_7cf53 5 = .ok (.iload_n 1, 1) := by decide +kernel
theorem dJ9_floorMod_7cf53_6 : decode cJ9_floorMod_7cf53 6 = .ok (.ixor, 1) := by decide +kernel
theorem dJ9_floorMod_7cf53_7 : decode cJ9_floorMod_7cf53 7 = .ok (.ifCond .ge 11, 3) := by decide +kernel
theorem dJ9_floorMod_7cf53_10 : decode cJ9_floorMod_7cf53 10 = .ok (.iload_n 2, 1) := by decide +kernel
theorem dJ9_floorMod_7cf53_11 : decode cJ9_floorMod_7cf53 11 = .ok (.ifCond .eq 7, 3) := by decide +kernel
theorem dJ9_floorMod_7cf53_14 : decode cJ9_floorMod_7cf53 14 = .ok (.iload_n 2, 1) := by decide +kernel
theorem dJ9_floorMod_7cf53_15 : decode cJ9_floorMod_7cf53 15 = .ok (.iload_n 1, 1) := by decide +kernel
theorem dJ9_floorMod_7cf53_16 : decode cJ9_floorMod_7cf53 16 = .ok (.iadd, 1) := by decide +kernel
theorem dJ9_floorMod_7cf53_17 : decode cJ9_floorMod_7cf53 17 = .ok (.ireturn, 1) := by decide +kernel
theorem dJ9_floorMod_7cf53_18 : decode cJ9_floorMod_7cf53 18 = .ok (.iload_n 2, 1) := by decide +kernel
theorem dJ9_floorMod_7cf53_19 : decode cJ9_floorMod_7cf53 19 = .ok (.ireturn, 1) := by decide +kernel
theorem dJ0_length_8abf5_0 : decode cJ0_length_8abf5 0 = .ok (.aload_n 0, 1) := by decide +kernel
theorem dJ0_length_8abf5_1 : decode cJ0_length_8abf5 1 = .ok (.getfield 9, 3) := by decide +kernel
theorem dJ0_length_8abf5_4 : decode cJ0_length_8abf5 4 = .ok (.arraylength, 1) := by decide +kernel
theorem dJ0_length_8abf5_5 : decode cJ0_length_8abf5 5 = .ok (.aload_n 0, 1) := by decide +kernel
theorem dJ0_length_8abf5_6 : decode cJ0_length_8abf5 6 = .ok (.invokevirtual 335, 3) := by decide +kernel
theorem dJ0_length_8abf5_9 : decode cJ0_length_8abf5 9 = .ok (.ishr, 1) := by decide +kernel
theorem dJ0_length_8abf5_10 : decode cJ0_length_8abf5 10 = .ok (.ireturn, 1) := by decide +kernel
theorem dJ0_charAt_5068e_0 : decode cJ0_charAt_5068e 0 = .ok (.aload_n 0, 1) := by decide +kernel
theorem dJ0_charAt_5068e_1 : decode cJ0_charAt_5068e 1 = .ok (.invokevirtual 492, 3) := by decide +kernel
theorem dJ0_charAt_5068e_4 : decode cJ0_charAt_5068e 4 = .ok (.ifCond .eq 12, 3) := by decide +kernel
theorem dJ0_charAt_5068e_7 : decode cJ0_charAt_5068e 7 = .ok (.aload_n 0, 1) := by decide +kernel
theorem dJ0_charAt_5068e_8 : decode cJ0_charAt_5068e 8 = .ok (.getfield 9, 3) := by decide +kernel
theorem dJ0_charAt_5068e_11 : decode cJ0_charAt_5068e 11 = .ok (.iload_n 1, 1) := by decide +kernel
theorem dJ0_charAt_5068e_12 : decode cJ0_charAt_5068e 12 = .ok (.invokestatic 495, 3) := by decide +kernel
theorem dJ0_charAt_5068e_15 : decode cJ0_charAt_5068e 15 = .ok (.ireturn, 1) := by decide +kernel
theorem dJ0_coder_7d493_0 : decode cJ0_coder_7d493 0 = .ok (.getstatic 38, 3) := by decide +kernel
theorem dJ0_coder_7d493_3 : decode cJ0_coder_7d493 3 = .ok (.ifCond .eq 10, 3) := by decide +kernel
theorem dJ0_coder_7d493_6 : decode cJ0_coder_7d493 6 = .ok (.aload_n 0, 1) := by decide +kernel
theorem dJ0_coder_7d493_7 : decode cJ0_coder_7d493 7 = .ok (.getfield 15, 3) := by decide +kernel
theorem dJ0_coder_7d493_10 : decode cJ0_coder_7d493 10 = .ok (.goto 4, 3) := by decide +kernel
theorem dJ0_coder_7d493_14 : decode cJ0_coder_7d493 14 = .ok (.ireturn, 1) := by decide +kernel
theorem dJ0_isLatin1_aae02_0 : decode cJ0_isLatin1_aae02 0 = .ok (.getstatic 38, 3) := by decide +kernel
theorem dJ0_isLatin1_aae02_3 : decode cJ0_isLatin1_aae02 3 = .ok (.ifCond .eq 14, 3) := by decide +kernel
theorem dJ0_isLatin1_aae02_6 : decode cJ0_isLatin1_aae02 6 = .ok (.aload_n 0, 1) := by decide +kernel
theorem dJ0_isLatin1_aae02_7 : decode cJ0_isLatin1_aae02 7 = .ok (.getfield 15, 3) := by decide +kernel
theorem dJ0_isLatin1_aae02_10 : decode cJ0_isLatin1_aae02 10 = .ok (.ifCond .ne 7, 3) := by decide +kernel
theorem dJ0_isLatin1_aae02_13 : decode cJ0_isLatin1_aae02 13 = .ok (.iconst 1, 1) := by decide +kernel
theorem dJ0_isLatin1_aae02_14 : decode cJ0_isLatin1_aae02 14 = .ok (.goto 4, 3) := by decide +kernel
theorem dJ0_isLatin1_aae02_18 : decode cJ0_isLatin1_aae02 18 = .ok (.ireturn, 1) := by decide +kernel
theorem dJ0_checkIndex_df160_0 : decode cJ0_checkIndex_df160 0 = .ok (.iload_n 0, 1) := by decide +kernel
theorem dJ0_checkIndex_df160_1 : decode cJ0_checkIndex_df160 1 = .ok (.iload_n 1, 1) := by decide +kernel
theorem dJ0_checkIndex_df160_2 : decode cJ0_checkIndex_df160 2 = .ok (.getstatic 1053, 3) := by decide +kernel
theorem dJ0_checkIndex_df160_5 : decode cJ0_checkIndex_df160 5 = .ok (.invokestatic 1059, 3) := by decide +kernel
theorem dJ0_checkIndex_df160_8 : decode cJ0_checkIndex_df160 8 = .ok (.pop, 1) := by decide +kernel
theorem dJ0_checkIndex_df160_9 : decode cJ0_checkIndex_df160 9 = .ok (.return_, 1) := by decide +kernel
theorem dJ1_charAt_3b067_0 : decode cJ1_charAt_3b067 0 = .ok (.iload_n 1, 1) := by decide +kernel
theorem dJ1_charAt_3b067_1 : decode cJ1_charAt_3b067 1 = .ok (.aload_n 0, 1) := by decide +kernel
theorem dJ1_charAt_3b067_2 : decode cJ1_charAt_3b067 2 = .ok (.arraylength, 1) := by decide +kernel
theorem dJ1_charAt_3b067_3 : decode cJ1_charAt_3b067 3 = .ok (.invokestatic 9, 3) := by decide +kernel
theorem dJ1_charAt_3b067_6 : decode cJ1_charAt_3b067 6 = .ok (.aload_n 0, 1) := by decide +kernel
theorem dJ1_charAt_3b067_7 : decode cJ1_charAt_3b067 7 = .ok (.iload_n 1, 1) := by decide +kernel
theorem dJ1_charAt_3b067_8 : decode cJ1_charAt_3b067 8 = .ok (.baload, 1) := by decide +kernel
theorem dJ1_charAt_3b067_9 : decode cJ1_charAt_3b067 9 = .ok (.sipush 255, 3) := by decide +kernel
theorem dJ1_charAt_3b067_12 : decode cJ1_charAt_3b067 12 = .ok (.iand, 1) := by decide +kernel
theorem dJ1_charAt_3b067_13 : decode cJ1_charAt_3b067 13 = .ok (.i2c, 1) := by decide +kernel
theorem dJ1_charAt_3b067_14 : decode cJ1_charAt_3b067 14 = .ok (.ireturn, 1) := by decide +kernel
theorem dJ7_fill_d0a16_0 : decode cJ7_fill_d0a16 0 = .ok (.iconst 0, 1) := by decide +kernel
theorem dJ7_fill_d0a16_1 : decode cJ7_fill_d0a16 1 = .ok (.istore_n 3, 1) := by decide +kernel
theorem dJ7_fill_d0a16_2 : decode cJ7_fill_d0a16 2 = .ok (.aload_n 0, 1) := by decide +kernel
theorem dJ7_fill_d0a16_3 : decode cJ7_fill_d0a16 3 = .ok (.arraylength, 1) := by decide +kernel
theorem dJ7_fill_d0a16_4 : decode cJ7_fill_d0a16 4 = .ok (.istore 4, 2) := by decide +kernel
theorem dJ7_fill_d0a16_6 : decode cJ7_fill_d0a16 6 = .ok (.iload_n 3, 1) := by decide +kernel
theorem dJ7_fill_d0a16_7 : decode cJ7_fill_d0a16 7 = .ok (.iload 4, 2) := by decide +kernel
theorem dJ7_fill_d0a16_9 : decode cJ7_fill_d0a16 9 = .ok (.if_icmp .ge 13, 3) := by decide +kernel
theorem dJ7_fill_d0a16_12 : decode cJ7_fill_d0a16 12 = .ok (.aload_n 0, 1) := by decide +kernel
theorem dJ7_fill_d0a16_13 : decode cJ7_fill_d0a16 13 = .ok (.iload_n 3, 1) := by decide +kernel
theorem dJ7_fill_d0a16_14 : decode cJ7_fill_d0a16 14 = .ok (.lload_n 1, 1) := by decide +kernel
theorem dJ7_fill_d0a16_15 : decode cJ7_fill_d0a16 15 = .ok (.lastore, 1) := by decide +kernel
theorem dJ7_fill_d0a16_16 : decode cJ7_fill_d0a16 16 = .ok (.iinc 3 1, 3) := by decide +kernel
theorem dJ7_fill_d0a16_19 : decode cJ7_fill_d0a16 19 = .ok (.goto (-13), 3) := by decide +kernel
theorem dJ7_fill_d0a16_22 : decode cJ7_fill_d0a16 22 = .ok (.return_, 1) := by decide +kernel
theorem dJ7_fill_53178_0 : decode cJ7_fill_53178 0 = .ok (.iconst 0, 1) := by decide +kernel
theorem dJ7_fill_53178_1 : decode cJ7_fill_53178 1 = .ok (.istore_n 2, 1) := by decide +kernel
theorem dJ7_fill_53178_2 : decode cJ7_fill_53178 2 = .ok (.aload_n 0, 1) := by decide +kernel
theorem dJ7_fill_53178_3 : decode cJ7_fill_53178 3 = .ok (.arraylength, 1) := by decide +kernel
theorem dJ7_fill_53178_4 : decode cJ7_fill_53178 4 = .ok (.istore_n 3, 1) := by decide +kernel
theorem dJ7_fill_53178_5 : decode cJ7_fill_53178 5 = .ok (.iload_n 2, 1) := by decide +kernel
theorem dJ7_fill_53178_6 : decode cJ7_fill_53178 6 = .ok (.iload_n 3, 1) := by decide +kernel
theorem dJ7_fill_53178_7 : decode cJ7_fill_53178 7 = .ok (.if_icmp .ge 13, 3) := by decide +kernel
theorem dJ7_fill_53178_10 : decode cJ7_fill_53178 10 = .ok (.aload_n 0, 1) := by decide +kernel
theorem dJ7_fill_53178_11 : decode cJ7_fill_53178 11 = .ok (.iload_n 2, 1) := by decide +kernel
theorem dJ7_fill_53178_12 : decode cJ7_fill_53178 12 = .ok (.iload_n 1, 1) := by decide +kernel
theorem dJ7_fill_53178_13 : decode cJ7_fill_53178 13 = .ok (.iastore, 1) := by decide +kernel
theorem dJ7_fill_53178_14 : decode cJ7_fill_53178 14 = .ok (.iinc 2 1, 3) := by decide +kernel
theorem dJ7_fill_53178_17 : decode cJ7_fill_53178 17 = .ok (.goto (-12), 3) := by decide +kernel
theorem dJ7_fill_53178_20 : decode cJ7_fill_53178 20 = .ok (.return_, 1) := by decide +kernel
theorem dJ3_checkIndex_8e157_0 : decode cJ3_checkIndex_8e157 0 = .ok (.iload_n 0, 1) := by decide +kernel
theorem dJ3_checkIndex_8e157_1 : decode cJ3_checkIndex_8e157 1 = .ok (.ifCond .lt 8, 3) := by decide +kernel
theorem dJ3_checkIndex_8e157_4 : decode cJ3_checkIndex_8e157 4 = .ok (.iload_n 0, 1) := by decide +kernel
theorem dJ3_checkIndex_8e157_5 : decode cJ3_checkIndex_8e157 5 = .ok (.iload_n 1, 1) := by decide +kernel
theorem dJ3_checkIndex_8e157_6 : decode cJ3_checkIndex_8e157 6 = .ok (.if_icmp .lt 10, 3) := by decide +kernel
theorem dJ3_checkIndex_8e157_16 : decode cJ3_checkIndex_8e157 16 = .ok (.iload_n 0, 1) := by decide +kernel
theorem dJ3_checkIndex_8e157_17 : decode cJ3_checkIndex_8e157 17 = .ok (.ireturn, 1) := by decide +kernel
theorem dL_law_0 : decode cL_law 0 = .ok (.new 7, 3) := by decide +kernel
theorem dL_law_3 : decode cL_law 3 = .ok (.dup, 1) := by decide +kernel
theorem dL_law_4 : decode cL_law 4 = .ok (.invokespecial 9, 3) := by decide +kernel
theorem dL_law_7 : decode cL_law 7 = .ok (.astore_n 1, 1) := by decide +kernel
theorem dL_law_8 : decode cL_law 8 = .ok (.new 10, 3) := by decide +kernel
theorem dL_law_11 : decode cL_law 11 = .ok (.dup, 1) := by decide +kernel
theorem dL_law_12 : decode cL_law 12 = .ok (.invokespecial 12, 3) := by decide +kernel
theorem dL_law_15 : decode cL_law 15 = .ok (.astore_n 2, 1) := by decide +kernel
theorem dL_law_16 : decode cL_law 16 = .ok (.iconst 0, 1) := by decide +kernel
theorem dL_law_17 : decode cL_law 17 = .ok (.istore_n 3, 1) := by decide +kernel
theorem dL_law_18 : decode cL_law 18 = .ok (.iload_n 3, 1) := by decide +kernel
theorem dL_law_19 : decode cL_law 19 = .ok (.aload_n 0, 1) := by decide +kernel
theorem dL_law_20 : decode cL_law 20 = .ok (.arraylength, 1) := by decide +kernel
theorem dL_law_21 : decode cL_law 21 = .ok (.bipush 8, 2) := by decide +kernel
theorem dL_law_23 : decode cL_law 23 = .ok (.isub, 1) := by decide +kernel
theorem dL_law_24 : decode cL_law 24 = .ok (.if_icmp .gt 1357, 3) := by decide +kernel
theorem dL_law_27 : decode cL_law 27 = .ok (.aload_n 0, 1) := by decide +kernel
theorem dL_law_28 : decode cL_law 28 = .ok (.iload_n 3, 1) := by decide +kernel
theorem dL_law_29 : decode cL_law 29 = .ok (.iaload, 1) := by decide +kernel
theorem dL_law_30 : decode cL_law 30 = .ok (.bipush 63, 2) := by decide +kernel
theorem dL_law_32 : decode cL_law 32 = .ok (.iand, 1) := by decide +kernel
theorem dL_law_33 : decode cL_law 33 = .ok (.tableswitch 1342 0 32 #[147, 210, 233, 246, 269, 292, 325, 358, 391, 434, 477, 540, 603, 666, 729, 762, 785, 818, 841, 854, 877, 900, 933, 956, 979, 992, 1079, 1132, 1175, 1188, 1263, 1306, 1319], 147) := by decide +kernel
theorem dL_law_180 : decode cL_law 180 = .ok (.aload_n 1, 1) := by decide +kernel
theorem dL_law_181 : decode cL_law 181 = .ok (.aload_n 0, 1) := by decide +kernel
theorem dL_law_182 : decode cL_law 182 = .ok (.iload_n 3, 1) := by decide +kernel
theorem dL_law_183 : decode cL_law 183 = .ok (.iconst 1, 1) := by decide +kernel
theorem dL_law_184 : decode cL_law 184 = .ok (.iadd, 1) := by decide +kernel
theorem dL_law_185 : decode cL_law 185 = .ok (.iaload, 1) := by decide +kernel
theorem dL_law_186 : decode cL_law 186 = .ok (.aload_n 0, 1) := by decide +kernel
theorem dL_law_187 : decode cL_law 187 = .ok (.iload_n 3, 1) := by decide +kernel
theorem dL_law_188 : decode cL_law 188 = .ok (.iconst 2, 1) := by decide +kernel
theorem dL_law_189 : decode cL_law 189 = .ok (.iadd, 1) := by decide +kernel
theorem dL_law_190 : decode cL_law 190 = .ok (.iaload, 1) := by decide +kernel
theorem dL_law_191 : decode cL_law 191 = .ok (.aload_n 0, 1) := by decide +kernel
theorem dL_law_192 : decode cL_law 192 = .ok (.iload_n 3, 1) := by decide +kernel
theorem dL_law_193 : decode cL_law 193 = .ok (.iconst 3, 1) := by decide +kernel
theorem dL_law_194 : decode cL_law 194 = .ok (.iadd, 1) := by decide +kernel
theorem dL_law_195 : decode cL_law 195 = .ok (.iaload, 1) := by decide +kernel
theorem dL_law_196 : decode cL_law 196 = .ok (.aload_n 0, 1) := by decide +kernel
theorem dL_law_197 : decode cL_law 197 = .ok (.iload_n 3, 1) := by decide +kernel
theorem dL_law_198 : decode cL_law 198 = .ok (.iconst 4, 1) := by decide +kernel
theorem dL_law_199 : decode cL_law 199 = .ok (.iadd, 1) := by decide +kernel
theorem dL_law_200 : decode cL_law 200 = .ok (.iaload, 1) := by decide +kernel
theorem dL_law_201 : decode cL_law 201 = .ok (.aload_n 0, 1) := by decide +kernel
theorem dL_law_202 : decode cL_law 202 = .ok (.iload_n 3, 1) := by decide +kernel
theorem dL_law_203 : decode cL_law 203 = .ok (.iconst 5, 1) := by decide +kernel
theorem dL_law_204 : decode cL_law 204 = .ok (.iadd, 1) := by decide +kernel
theorem dL_law_205 : decode cL_law 205 = .ok (.iaload, 1) := by decide +kernel
theorem dL_law_206 : decode cL_law 206 = .ok (.invokevirtual 13, 3) := by decide +kernel
theorem dL_law_209 : decode cL_law 209 = .ok (.pop, 1) := by decide +kernel
theorem dL_law_210 : decode cL_law 210 = .ok (.aload_n 2, 1) := by decide +kernel
theorem dL_law_211 : decode cL_law 211 = .ok (.aload_n 0, 1) := by decide +kernel
theorem dL_law_212 : decode cL_law 212 = .ok (.iload_n 3, 1) := by decide +kernel
theorem dL_law_213 : decode cL_law 213 = .ok (.iconst 1, 1) := by decide +kernel
theorem dL_law_214 : decode cL_law 214 = .ok (.iadd, 1) := by decide +kernel
theorem dL_law_215 : decode cL_law 215 = .ok (.iaload, 1) := by decide +kernel
theorem dL_law_216 : decode cL_law 216 = .ok (.aload_n 0, 1) := by decide +kernel
theorem dL_law_217 : decode cL_law 217 = .ok (.iload_n 3, 1) := by decide +kernel
theorem dL_law_218 : decode cL_law 218 = .ok (.iconst 2, 1) := by decide +kernel
theorem dL_law_219 : decode cL_law 219 = .ok (.iadd, 1) := by decide +kernel
theorem dL_law_220 : decode cL_law 220 = .ok (.iaload, 1) := by decide +kernel
theorem dL_law_221 : decode cL_law 221 = .ok (.aload_n 0, 1) := by decide +kernel
theorem dL_law_222 : decode cL_law 222 = .ok (.iload_n 3, 1) := by decide +kernel
theorem dL_law_223 : decode cL_law 223 = .ok (.iconst 3, 1) := by decide +kernel
theorem dL_law_224 : decode cL_law 224 = .ok (.iadd, 1) := by decide +kernel
theorem dL_law_225 : decode cL_law 225 = .ok (.iaload, 1) := by decide +kernel
theorem dL_law_226 : decode cL_law 226 = .ok (.aload_n 0, 1) := by decide +kernel
theorem dL_law_227 : decode cL_law 227 = .ok (.iload_n 3, 1) := by decide +kernel
theorem dL_law_228 : decode cL_law 228 = .ok (.iconst 4, 1) := by decide +kernel
theorem dL_law_229 : decode cL_law 229 = .ok (.iadd, 1) := by decide +kernel
theorem dL_law_230 : decode cL_law 230 = .ok (.iaload, 1) := by decide +kernel
theorem dL_law_231 : decode cL_law 231 = .ok (.aload_n 0, 1) := by decide +kernel
theorem dL_law_232 : decode cL_law 232 = .ok (.iload_n 3, 1) := by decide +kernel
theorem dL_law_233 : decode cL_law 233 = .ok (.iconst 5, 1) := by decide +kernel
theorem dL_law_234 : decode cL_law 234 = .ok (.iadd, 1) := by decide +kernel
theorem dL_law_235 : decode cL_law 235 = .ok (.iaload, 1) := by decide +kernel
theorem dL_law_236 : decode cL_law 236 = .ok (.invokevirtual 17, 3) := by decide +kernel
theorem dL_law_239 : decode cL_law 239 = .ok (.pop, 1) := by decide +kernel
theorem dL_law_240 : decode cL_law 240 = .ok (.goto 1135, 3) := by decide +kernel
theorem dL_law_243 : decode cL_law 243 = .ok (.aload_n 1, 1) := by decide +kernel
theorem dL_law_244 : decode cL_law 244 = .ok (.aload_n 0, 1) := by decide +kernel
theorem dL_law_245 : decode cL_law 245 = .ok (.iload_n 3, 1) := by decide +kernel
theorem dL_law_246 : decode cL_law 246 = .ok (.iconst 1, 1) := by decide +kernel
theorem dL_law_247 : decode cL_law 247 = .ok (.iadd, 1) := by decide +kernel
theorem dL_law_248 : decode cL_law 248 = .ok (.iaload, 1) := by decide +kernel
theorem dL_law_249 : decode cL_law 249 = .ok (.invokevirtual 18, 3) := by decide +kernel
theorem dL_law_252 : decode cL_law 252 = .ok (.pop, 1) := by decide +kernel
theorem dL_law_253 : decode cL_law 253 = .ok (.aload_n 2, 1) := by decide +kernel
theorem dL_law_254 : decode cL_law 254 = .ok (.aload_n 0, 1) := by decide +kernel
theorem dL_law_255 : decode cL_law 255 = .ok (.iload_n 3, 1) := by decide +kernel
theorem dL_law_256 : decode cL_law 256 = .ok (.iconst 1, 1) := by decide +kernel
theorem dL_law_257 : decode cL_law 257 = .ok (.iadd, 1) := by decide +kernel
theorem dL_law_258 : decode cL_law 258 = .ok (.iaload, 1) := by decide +kernel
theorem dL_law_259 : decode cL_law 259 = .ok (.invokevirtual 22, 3) := by decide +kernel
theorem dL_law_262 : decode cL_law 262 = .ok (.pop, 1) := by decide +kernel
theorem dL_law_263 : decode cL_law 263 = .ok (.goto 1112, 3) := by decide +kernel
theorem dL_law_266 : decode cL_law 266 = .ok (.aload_n 1, 1) := by decide +kernel
theorem dL_law_267 : decode cL_law 267 = .ok (.invokevirtual 23, 3) := by decide +kernel
theorem dL_law_270 : decode cL_law 270 = .ok (.pop, 1) := by decide +kernel
theorem dL_law_271 : decode cL_law 271 = .ok (.aload_n 2, 1) := by decide +kernel
theorem dL_law_272 : decode cL_law 272 = .ok (.invokevirtual 27, 3) := by decide +kernel
theorem dL_law_275 : decode cL_law 275 = .ok (.pop, 1) := by decide +kernel
theorem dL_law_276 : decode cL_law 276 = .ok (.goto 1099, 3) := by decide +kernel
theorem dL_law_279 : decode cL_law 279 = .ok (.aload_n 1, 1) := by decide +kernel
theorem dL_law_280 : decode cL_law 280 = .ok (.aload_n 0, 1) := by decide +kernel
theorem dL_law_281 : decode cL_law 281 = .ok (.iload_n 3, 1) := by decide +kernel
theorem dL_law_282 : decode cL_law 282 = .ok (.iconst 1, 1) := by decide +kernel
theorem dL_law_283 : decode cL_law 283 = .ok (.iadd, 1) := by decide +kernel
theorem dL_law_284 : decode cL_law 284 = .ok (.iaload, 1) := by decide +kernel
theorem dL_law_285 : decode cL_law 285 = .ok (.invokevirtual 28, 3) := by decide +kernel
theorem dL_law_288 : decode cL_law 288 = .ok (.pop, 1) := by decide +kernel
theorem dL_law_289 : decode cL_law 289 = .ok (.aload_n 2, 1) := by decide +kernel
theorem dL_law_290 : decode cL_law 290 = .ok (.aload_n 0, 1) := by decide +kernel
theorem dL_law_291 : decode cL_law 291 = .ok (.iload_n 3, 1) := by decide +kernel
theorem dL_law_292 : decode cL_law 292 = .ok (.iconst 1, 1) := by decide +kernel
theorem dL_law_293 : decode cL_law 293 = .ok (.iadd, 1) := by decide +kernel
theorem dL_law_294 : decode cL_law 294 = .ok (.iaload, 1) := by decide +kernel
theorem dL_law_295 : decode cL_law 295 = .ok (.invokevirtual 31, 3) := by decide +kernel
theorem dL_law_298 : decode cL_law 298 = .ok (.pop, 1) := by decide +kernel
theorem dL_law_299 : decode cL_law 299 = .ok (.goto 1076, 3) := by decide +kernel
theorem dL_law_302 : decode cL_law 302 = .ok (.aload_n 1, 1) := by decide +kernel
theorem dL_law_303 : decode cL_law 303 = .ok (.aload_n 0, 1) := by decide +kernel
theorem dL_law_304 : decode cL_law 304 = .ok (.iload_n 3, 1) := by decide +kernel
theorem dL_law_305 : decode cL_law 305 = .ok (.iconst 1, 1) := by decide +kernel
theorem dL_law_306 : decode cL_law 306 = .ok (.iadd, 1) := by decide +kernel
theorem dL_law_307 : decode cL_law 307 = .ok (.iaload, 1) := by decide +kernel
theorem dL_law_308 : decode cL_law 308 = .ok (.invokevirtual 32, 3) := by decide +kernel
theorem dL_law_311 : decode cL_law 311 = .ok (.pop, 1) := by decide +kernel
theorem dL_law_312 : decode cL_law 312 = .ok (.aload_n 2, 1) := by decide +kernel
theorem dL_law_313 : decode cL_law 313 = .ok (.aload_n 0, 1) := by decide +kernel
theorem dL_law_314 : decode cL_law 314 = .ok (.iload_n 3, 1) := by decide +kernel
theorem dL_law_315 : decode cL_law 315 = .ok (.iconst 1, 1) := by decide +kernel
theorem dL_law_316 : decode cL_law 316 = .ok (.iadd, 1) := by decide +kernel
theorem dL_law_317 : decode cL_law 317 = .ok (.iaload, 1) := by decide +kernel
theorem dL_law_318 : decode cL_law 318 = .ok (.invokevirtual 35, 3) := by decide +kernel
theorem dL_law_321 : decode cL_law 321 = .ok (.pop, 1) := by decide +kernel
theorem dL_law_322 : decode cL_law 322 = .ok (.goto 1053, 3) := by decide +kernel
theorem dL_law_325 : decode cL_law 325 = .ok (.aload_n 1, 1) := by decide +kernel
theorem dL_law_326 : decode cL_law 326 = .ok (.aload_n 0, 1) := by decide +kernel
theorem dL_law_327 : decode cL_law 327 = .ok (.iload_n 3, 1) := by decide +kernel
theorem dL_law_328 : decode cL_law 328 = .ok (.iconst 1, 1) := by decide +kernel
theorem dL_law_329 : decode cL_law 329 = .ok (.iadd, 1) := by decide +kernel
theorem dL_law_330 : decode cL_law 330 = .ok (.iaload, 1) := by decide +kernel
theorem dL_law_331 : decode cL_law 331 = .ok (.aload_n 0, 1) := by decide +kernel
theorem dL_law_332 : decode cL_law 332 = .ok (.iload_n 3, 1) := by decide +kernel
theorem dL_law_333 : decode cL_law 333 = .ok (.iconst 2, 1) := by decide +kernel
theorem dL_law_334 : decode cL_law 334 = .ok (.iadd, 1) := by decide +kernel
theorem dL_law_335 : decode cL_law 335 = .ok (.iaload, 1) := by decide +kernel
theorem dL_law_336 : decode cL_law 336 = .ok (.invokevirtual 36, 3) := by decide +kernel
theorem dL_law_339 : decode cL_law 339 = .ok (.pop, 1) := by decide +kernel
theorem dL_law_340 : decode cL_law 340 = .ok (.aload_n 2, 1) := by decide +kernel
theorem dL_law_341 : decode cL_law 341 = .ok (.aload_n 0, 1) := by decide +kernel
theorem dL_law_342 : decode cL_law 342 = .ok (.iload_n 3, 1) := by decide +kernel
theorem dL_law_343 : decode cL_law 343 = .ok (.iconst 1, 1) := by decide +kernel
theorem dL_law_344 : decode cL_law 344 = .ok (.iadd, 1) := by decide +kernel
theorem dL_law_345 : decode cL_law 345 = .ok (.iaload, 1) := by decide +kernel
theorem dL_law_346 : decode cL_law 346 = .ok (.aload_n 0, 1) := by decide +kernel
theorem dL_law_347 : decode cL_law 347 = .ok (.iload_n 3, 1) := by decide +kernel
theorem dL_law_348 : decode cL_law 348 = .ok (.iconst 2, 1) := by decide +kernel
theorem dL_law_349 : decode cL_law 349 = .ok (.iadd, 1) := by decide +kernel
theorem dL_law_350 : decode cL_law 350 = .ok (.iaload, 1) := by decide +kernel
theorem dL_law_351 : decode cL_law 351 = .ok (.invokevirtual 40, 3) := by decide +kernel
theorem dL_law_354 : decode cL_law 354 = .ok (.pop, 1) := by decide +kernel
theorem dL_law_355 : decode cL_law 355 = .ok (.goto 1020, 3) := by decide +kernel
theorem dL_law_358 : decode cL_law 358 = .ok (.aload_n 1, 1) := by decide +kernel
theorem dL_law_359 : decode cL_law 359 = .ok (.aload_n 0, 1) := by decide +kernel
theorem dL_law_360 : decode cL_law 360 = .ok (.iload_n 3, 1) := by decide +kernel
theorem dL_law_361 : decode cL_law 361 = .ok (.iconst 1, 1) := by decide +kernel
theorem dL_law_362 : decode cL_law 362 = .ok (.iadd, 1) := by decide +kernel
theorem dL_law_363 : decode cL_law 363 = .ok (.iaload, 1) := by decide +kernel
theorem dL_law_364 : decode cL_law 364 = .ok (.aload_n 0, 1) := by decide +kernel
theorem dL_law_365 : decode cL_law 365 = .ok (.iload_n 3, 1) := by decide +kernel
theorem dL_law_366 : decode cL_law 366 = .ok (.iconst 2, 1) := by decide +kernel
theorem dL_law_367 : decode cL_law 367 = .ok (.iadd, 1) := by decide +kernel
theorem dL_law_368 : decode cL_law 368 = .ok (.iaload, 1) := by decide +kernel
theorem dL_law_369 : decode cL_law 369 = .ok (.invokevirtual 41, 3) := by decide +kernel
theorem dL_law_372 : decode cL_law 372 = .ok (.pop, 1) := by decide +kernel
theorem dL_law_373 : decode cL_law 373 = .ok (.aload_n 2, 1) := by decide +kernel
theorem dL_law_374 : decode cL_law 374 = .ok (.aload_n 0, 1) := by decide +kernel
theorem dL_law_375 : decode cL_law 375 = .ok (.iload_n 3, 1) := by decide +kernel
theorem dL_law_376 : decode cL_law 376 = .ok (.iconst 1, 1) := by decide +kernel
theorem dL_law_377 : decode cL_law 377 = .ok (.iadd, 1) := by decide +kernel
theorem dL_law_378 : decode cL_law 378 = .ok (.iaload, 1) := by decide +kernel
theorem dL_law_379 : decode cL_law 379 = .ok (.aload_n 0, 1) := by decide +kernel
theorem dL_law_380 : decode cL_law 380 = .ok (.iload_n 3, 1) := by decide +kernel
theorem dL_law_381 : decode cL_law 381 = .ok (.iconst 2, 1) := by decide +kernel
theorem dL_law_382 : decode cL_law 382 = .ok (.iadd, 1) := by decide +kernel
theorem dL_law_383 : decode cL_law 383 = .ok (.iaload, 1) := by decide +kernel
theorem dL_law_384 : decode cL_law 384 = .ok (.invokevirtual 44, 3) := by decide +kernel
theorem dL_law_387 : decode cL_law 387 = .ok (.pop, 1) := by decide +kernel
theorem dL_law_388 : decode cL_law 388 = .ok (.goto 987, 3) := by decide +kernel
theorem dL_law_391 : decode cL_law 391 = .ok (.aload_n 1, 1) := by decide +kernel
theorem dL_law_392 : decode cL_law 392 = .ok (.aload_n 0, 1) := by decide +kernel
theorem dL_law_393 : decode cL_law 393 = .ok (.iload_n 3, 1) := by decide +kernel
theorem dL_law_394 : decode cL_law 394 = .ok (.iconst 1, 1) := by decide +kernel
theorem dL_law_395 : decode cL_law 395 = .ok (.iadd, 1) := by decide +kernel
theorem dL_law_396 : decode cL_law 396 = .ok (.iaload, 1) := by decide +kernel
theorem dL_law_397 : decode cL_law 397 = .ok (.aload_n 0, 1) := by decide +kernel
theorem dL_law_398 : decode cL_law 398 = .ok (.iload_n 3, 1) := by decide +kernel
theorem dL_law_399 : decode cL_law 399 = .ok (.iconst 2, 1) := by decide +kernel
theorem dL_law_400 : decode cL_law 400 = .ok (.iadd, 1) := by decide +kernel
theorem dL_law_401 : decode cL_law 401 = .ok (.iaload, 1) := by decide +kernel
theorem dL_law_402 : decode cL_law 402 = .ok (.invokevirtual 45, 3) := by decide +kernel
theorem dL_law_405 : decode cL_law 405 = .ok (.pop, 1) := by decide +kernel
theorem dL_law_406 : decode cL_law 406 = .ok (.aload_n 2, 1) := by decide +kernel
theorem dL_law_407 : decode cL_law 407 = .ok (.aload_n 0, 1) := by decide +kernel
theorem dL_law_408 : decode cL_law 408 = .ok (.iload_n 3, 1) := by decide +kernel
theorem dL_law_409 : decode cL_law 409 = .ok (.iconst 1, 1) := by decide +kernel
theorem dL_law_410 : decode cL_law 410 = .ok (.iadd, 1) := by decide +kernel
theorem dL_law_411 : decode cL_law 411 = .ok (.iaload, 1) := by decide +kernel
theorem dL_law_412 : decode cL_law 412 = .ok (.aload_n 0, 1) := by decide +kernel
theorem dL_law_413 : decode cL_law 413 = .ok (.iload_n 3, 1) := by decide +kernel
theorem dL_law_414 : decode cL_law 414 = .ok (.iconst 2, 1) := by decide +kernel
theorem dL_law_415 : decode cL_law 415 = .ok (.iadd, 1) := by decide +kernel
theorem dL_law_416 : decode cL_law 416 = .ok (.iaload, 1) := by decide +kernel
theorem dL_law_417 : decode cL_law 417 = .ok (.invokevirtual 48, 3) := by decide +kernel
theorem dL_law_420 : decode cL_law 420 = .ok (.pop, 1) := by decide +kernel
theorem dL_law_421 : decode cL_law 421 = .ok (.goto 954, 3) := by decide +kernel
theorem dL_law_424 : decode cL_law 424 = .ok (.aload_n 1, 1) := by decide +kernel
theorem dL_law_425 : decode cL_law 425 = .ok (.aload_n 0, 1) := by decide +kernel
theorem dL_law_426 : decode cL_law 426 = .ok (.iload_n 3, 1) := by decide +kernel
theorem dL_law_427 : decode cL_law 427 = .ok (.iconst 1, 1) := by decide +kernel
theorem dL_law_428 : decode cL_law 428 = .ok (.iadd, 1) := by decide +kernel
theorem dL_law_429 : decode cL_law 429 = .ok (.iaload, 1) := by decide +kernel
theorem dL_law_430 : decode cL_law 430 = .ok (.aload_n 0, 1) := by decide +kernel
theorem dL_law_431 : decode cL_law 431 = .ok (.iload_n 3, 1) := by decide +kernel
theorem dL_law_432 : decode cL_law 432 = .ok (.iconst 2, 1) := by decide +kernel
theorem dL_law_433 : decode cL_law 433 = .ok (.iadd, 1) := by decide +kernel
theorem dL_law_434 : decode cL_law 434 = .ok (.iaload, 1) := by decide +kernel
theorem dL_law_435 : decode cL_law 435 = .ok (.aload_n 0, 1) := by decide +kernel
theorem dL_law_436 : decode cL_law 436 = .ok (.iload_n 3, 1) := by decide +kernel
theorem dL_law_437 : decode cL_law 437 = .ok (.iconst 3, 1) := by decide +kernel
theorem dL_law_438 : decode cL_law 438 = .ok (.iadd, 1) := by decide +kernel
theorem dL_law_439 : decode cL_law 439 = .ok (.iaload, 1) := by decide +kernel
theorem dL_law_440 : decode cL_law 440 = .ok (.invokevirtual 49, 3) := by decide +kernel
theorem dL_law_443 : decode cL_law 443 = .ok (.pop, 1) := by decide +kernel
theorem dL_law_444 : decode cL_law 444 = .ok (.aload_n 2, 1) := by decide +kernel
theorem dL_law_445 : decode cL_law 445 = .ok (.aload_n 0, 1) := by decide +kernel
theorem dL_law_446 : decode cL_law 446 = .ok (.iload_n 3, 1) := by decide +kernel
theorem dL_law_447 : decode cL_law 447 = .ok (.iconst 1, 1) := by decide +kernel
theorem dL_law_448 : decode cL_law 448 = .ok (.iadd, 1) := by decide +kernel
theorem dL_law_449 : decode cL_law 449 = .ok (.iaload, 1) := by decide +kernel
theorem dL_law_450 : decode cL_law 450 = .ok (.aload_n 0, 1) := by decide +kernel
theorem dL_law_451 : decode cL_law 451 = .ok (.iload_n 3, 1) := by decide +kernel
theorem dL_law_452 : decode cL_law 452 = .ok (.iconst 2, 1) := by decide +kernel
theorem dL_law_453 : decode cL_law 453 = .ok (.iadd, 1) := by decide +kernel
theorem dL_law_454 : decode cL_law 454 = .ok (.iaload, 1) := by decide +kernel
theorem dL_law_455 : decode cL_law 455 = .ok (.aload_n 0, 1) := by decide +kernel
theorem dL_law_456 : decode cL_law 456 = .ok (.iload_n 3, 1) := by decide +kernel
theorem dL_law_457 : decode cL_law 457 = .ok (.iconst 3, 1) := by decide +kernel
theorem dL_law_458 : decode cL_law 458 = .ok (.iadd, 1) := by decide +kernel
theorem dL_law_459 : decode cL_law 459 = .ok (.iaload, 1) := by decide +kernel
theorem dL_law_460 : decode cL_law 460 = .ok (.invokevirtual 53, 3) := by decide +kernel
theorem dL_law_463 : decode cL_law 463 = .ok (.pop, 1) := by decide +kernel
theorem dL_law_464 : decode cL_law 464 = .ok (.goto 911, 3) := by decide +kernel
theorem dL_law_467 : decode cL_law 467 = .ok (.aload_n 1, 1) := by decide +kernel
theorem dL_law_468 : decode cL_law 468 = .ok (.aload_n 0, 1) := by decide +kernel
theorem dL_law_469 : decode cL_law 469 = .ok (.iload_n 3, 1) := by decide +kernel
theorem dL_law_470 : decode cL_law 470 = .ok (.iconst 1, 1) := by decide +kernel
theorem dL_law_471 : decode cL_law 471 = .ok (.iadd, 1) := by decide +kernel
theorem dL_law_472 : decode cL_law 472 = .ok (.iaload, 1) := by decide +kernel
theorem dL_law_473 : decode cL_law 473 = .ok (.aload_n 0, 1) := by decide +kernel
theorem dL_law_474 : decode cL_law 474 = .ok (.iload_n 3, 1) := by decide +kernel
theorem dL_law_475 : decode cL_law 475 = .ok (.iconst 2, 1) := by decide +kernel
theorem dL_law_476 : decode cL_law 476 = .ok (.iadd, 1) := by decide +kernel
theorem dL_law_477 : decode cL_law 477 = .ok (.iaload, 1) := by decide +kernel
theorem dL_law_478 : decode cL_law 478 = .ok (.aload_n 0, 1) := by decide +kernel
theorem dL_law_479 : decode cL_law 479 = .ok (.iload_n 3, 1) := by decide +kernel
theorem dL_law_480 : decode cL_law 480 = .ok (.iconst 3, 1) := by decide +kernel
theorem dL_law_481 : decode cL_law 481 = .ok (.iadd, 1) := by decide +kernel
theorem dL_law_482 : decode cL_law 482 = .ok (.iaload, 1) := by decide +kernel
theorem dL_law_483 : decode cL_law 483 = .ok (.invokevirtual 54, 3) := by decide +kernel
theorem dL_law_486 : decode cL_law 486 = .ok (.pop, 1) := by decide +kernel
theorem dL_law_487 : decode cL_law 487 = .ok (.aload_n 2, 1) := by decide +kernel
theorem dL_law_488 : decode cL_law 488 = .ok (.aload_n 0, 1) := by decide +kernel
theorem dL_law_489 : decode cL_law 489 = .ok (.iload_n 3, 1) := by decide +kernel
theorem dL_law_490 : decode cL_law 490 = .ok (.iconst 1, 1) := by decide +kernel
theorem dL_law_491 : decode cL_law 491 = .ok (.iadd, 1) := by decide +kernel
theorem dL_law_492 : decode cL_law 492 = .ok (.iaload, 1) := by decide +kernel
theorem dL_law_493 : decode cL_law 493 = .ok (.aload_n 0, 1) := by decide +kernel
theorem dL_law_494 : decode cL_law 494 = .ok (.iload_n 3, 1) := by decide +kernel
theorem dL_law_495 : decode cL_law 495 = .ok (.iconst 2, 1) := by decide +kernel
theorem dL_law_496 : decode cL_law 496 = .ok (.iadd, 1) := by decide +kernel
theorem dL_law_497 : decode cL_law 497 = .ok (.iaload, 1) := by decide +kernel
theorem dL_law_498 : decode cL_law 498 = .ok (.aload_n 0, 1) := by decide +kernel
theorem dL_law_499 : decode cL_law 499 = .ok (.iload_n 3, 1) := by decide +kernel
theorem dL_law_500 : decode cL_law 500 = .ok (.iconst 3, 1) := by decide +kernel
theorem dL_law_501 : decode cL_law 501 = .ok (.iadd, 1) := by decide +kernel
theorem dL_law_502 : decode cL_law 502 = .ok (.iaload, 1) := by decide +kernel
theorem dL_law_503 : decode cL_law 503 = .ok (.invokevirtual 57, 3) := by decide +kernel
theorem dL_law_506 : decode cL_law 506 = .ok (.pop, 1) := by decide +kernel
theorem dL_law_507 : decode cL_law 507 = .ok (.goto 868, 3) := by decide +kernel
theorem dL_law_510 : decode cL_law 510 = .ok (.aload_n 1, 1) := by decide +kernel
theorem dL_law_511 : decode cL_law 511 = .ok (.aload_n 0, 1) := by decide +kernel
theorem dL_law_512 : decode cL_law 512 = .ok (.iload_n 3, 1) := by decide +kernel
theorem dL_law_513 : decode cL_law 513 = .ok (.iconst 1, 1) := by decide +kernel
theorem dL_law_514 : decode cL_law 514 = .ok (.iadd, 1) := by decide +kernel
theorem dL_law_515 : decode cL_law 515 = .ok (.iaload, 1) := by decide +kernel
theorem dL_law_516 : decode cL_law 516 = .ok (.aload_n 0, 1) := by decide +kernel
theorem dL_law_517 : decode cL_law 517 = .ok (.iload_n 3, 1) := by decide +kernel
theorem dL_law_518 : decode cL_law 518 = .ok (.iconst 2, 1) := by decide +kernel
theorem dL_law_519 : decode cL_law 519 = .ok (.iadd, 1) := by decide +kernel
theorem dL_law_520 : decode cL_law 520 = .ok (.iaload, 1) := by decide +kernel
theorem dL_law_521 : decode cL_law 521 = .ok (.aload_n 0, 1) := by decide +kernel
theorem dL_law_522 : decode cL_law 522 = .ok (.iload_n 3, 1) := by decide +kernel
theorem dL_law_523 : decode cL_law 523 = .ok (.iconst 3, 1) := by decide +kernel
theorem dL_law_524 : decode cL_law 524 = .ok (.iadd, 1) := by decide +kernel
theorem dL_law_525 : decode cL_law 525 = .ok (.iaload, 1) := by decide +kernel
theorem dL_law_526 : decode cL_law 526 = .ok (.aload_n 0, 1) := by decide +kernel
theorem dL_law_527 : decode cL_law 527 = .ok (.iload_n 3, 1) := by decide +kernel
theorem dL_law_528 : decode cL_law 528 = .ok (.iconst 4, 1) := by decide +kernel
theorem dL_law_529 : decode cL_law 529 = .ok (.iadd, 1) := by decide +kernel
theorem dL_law_530 : decode cL_law 530 = .ok (.iaload, 1) := by decide +kernel
theorem dL_law_531 : decode cL_law 531 = .ok (.aload_n 0, 1) := by decide +kernel
theorem dL_law_532 : decode cL_law 532 = .ok (.iload_n 3, 1) := by decide +kernel
theorem dL_law_533 : decode cL_law 533 = .ok (.iconst 5, 1) := by decide +kernel
theorem dL_law_534 : decode cL_law 534 = .ok (.iadd, 1) := by decide +kernel
theorem dL_law_535 : decode cL_law 535 = .ok (.iaload, 1) := by decide +kernel
theorem dL_law_536 : decode cL_law 536 = .ok (.invokevirtual 58, 3) := by decide +kernel
theorem dL_law_539 : decode cL_law 539 = .ok (.pop, 1) := by decide +kernel
theorem dL_law_540 : decode cL_law 540 = .ok (.aload_n 2, 1) := by decide +kernel
theorem dL_law_541 : decode cL_law 541 = .ok (.aload_n 0, 1) := by decide +kernel
theorem dL_law_542 : decode cL_law 542 = .ok (.iload_n 3, 1) := by decide +kernel
theorem dL_law_543 : decode cL_law 543 = .ok (.iconst 1, 1) := by decide +kernel
theorem dL_law_544 : decode cL_law 544 = .ok (.iadd, 1) := by decide +kernel
theorem dL_law_545 : decode cL_law 545 = .ok (.iaload, 1) := by decide +kernel
theorem dL_law_546 : decode cL_law 546 = .ok (.aload_n 0, 1) := by decide +kernel
theorem dL_law_547 : decode cL_law 547 = .ok (.iload_n 3, 1) := by decide +kernel
theorem dL_law_548 : decode cL_law 548 = .ok (.iconst 2, 1) := by decide +kernel
theorem dL_law_549 : decode cL_law 549 = .ok (.iadd, 1) := by decide +kernel
theorem dL_law_550 : decode cL_law 550 = .ok (.iaload, 1) := by decide +kernel
theorem dL_law_551 : decode cL_law 551 = .ok (.aload_n 0, 1) := by decide +kernel
theorem dL_law_552 : decode cL_law 552 = .ok (.iload_n 3, 1) := by decide +kernel
theorem dL_law_553 : decode cL_law 553 = .ok (.iconst 3, 1) := by decide +kernel
theorem dL_law_554 : decode cL_law 554 = .ok (.iadd, 1) := by decide +kernel
theorem dL_law_555 : decode cL_law 555 = .ok (.iaload, 1) := by decide +kernel
theorem dL_law_556 : decode cL_law 556 = .ok (.aload_n 0, 1) := by decide +kernel
theorem dL_law_557 : decode cL_law 557 = .ok (.iload_n 3, 1) := by decide +kernel
theorem dL_law_558 : decode cL_law 558 = .ok (.iconst 4, 1) := by decide +kernel
theorem dL_law_559 : decode cL_law 559 = .ok (.iadd, 1) := by decide +kernel
theorem dL_law_560 : decode cL_law 560 = .ok (.iaload, 1) := by decide +kernel
theorem dL_law_561 : decode cL_law 561 = .ok (.aload_n 0, 1) := by decide +kernel
theorem dL_law_562 : decode cL_law 562 = .ok (.iload_n 3, 1) := by decide +kernel
theorem dL_law_563 : decode cL_law 563 = .ok (.iconst 5, 1) := by decide +kernel
theorem dL_law_564 : decode cL_law 564 = .ok (.iadd, 1) := by decide +kernel
theorem dL_law_565 : decode cL_law 565 = .ok (.iaload, 1) := by decide +kernel
theorem dL_law_566 : decode cL_law 566 = .ok (.invokevirtual 61, 3) := by decide +kernel
theorem dL_law_569 : decode cL_law 569 = .ok (.pop, 1) := by decide +kernel
theorem dL_law_570 : decode cL_law 570 = .ok (.goto 805, 3) := by decide +kernel
theorem dL_law_573 : decode cL_law 573 = .ok (.aload_n 1, 1) := by decide +kernel
theorem dL_law_574 : decode cL_law 574 = .ok (.aload_n 0, 1) := by decide +kernel
theorem dL_law_575 : decode cL_law 575 = .ok (.iload_n 3, 1) := by decide +kernel
theorem dL_law_576 : decode cL_law 576 = .ok (.iconst 1, 1) := by decide +kernel
theorem dL_law_577 : decode cL_law 577 = .ok (.iadd, 1) := by decide +kernel
theorem dL_law_578 : decode cL_law 578 = .ok (.iaload, 1) := by decide +kernel
theorem dL_law_579 : decode cL_law 579 = .ok (.aload_n 0, 1) := by decide +kernel
theorem dL_law_580 : decode cL_law 580 = .ok (.iload_n 3, 1) := by decide +kernel
theorem dL_law_581 : decode cL_law 581 = .ok (.iconst 2, 1) := by decide +kernel
theorem dL_law_582 : decode cL_law 582 = .ok (.iadd, 1) := by decide +kernel
theorem dL_law_583 : decode cL_law 583 = .ok (.iaload, 1) := by decide +kernel
theorem dL_law_584 : decode cL_law 584 = .ok (.aload_n 0, 1) := by decide +kernel
theorem dL_law_585 : decode cL_law 585 = .ok (.iload_n 3, 1) := by decide +kernel
theorem dL_law_586 : decode cL_law 586 = .ok (.iconst 3, 1) := by decide +kernel
theorem dL_law_587 : decode cL_law 587 = .ok (.iadd, 1) := by decide +kernel
theorem dL_law_588 : decode cL_law 588 = .ok (.iaload, 1) := by decide +kernel
theorem dL_law_589 : decode cL_law 589 = .ok (.aload_n 0, 1) := by decide +kernel
theorem dL_law_590 : decode cL_law 590 = .ok (.iload_n 3, 1) := by decide +kernel
theorem dL_law_591 : decode cL_law 591 = .ok (.iconst 4, 1) := by decide +kernel
theorem dL_law_592 : decode cL_law 592 = .ok (.iadd, 1) := by decide +kernel
theorem dL_law_593 : decode cL_law 593 = .ok (.iaload, 1) := by decide +kernel
theorem dL_law_594 : decode cL_law 594 = .ok (.aload_n 0, 1) := by decide +kernel
theorem dL_law_595 : decode cL_law 595 = .ok (.iload_n 3, 1) := by decide +kernel
theorem dL_law_596 : decode cL_law 596 = .ok (.iconst 5, 1) := by decide +kernel
theorem dL_law_597 : decode cL_law 597 = .ok (.iadd, 1) := by decide +kernel
theorem dL_law_598 : decode cL_law 598 = .ok (.iaload, 1) := by decide +kernel
theorem dL_law_599 : decode cL_law 599 = .ok (.invokevirtual 62, 3) := by decide +kernel
theorem dL_law_602 : decode cL_law 602 = .ok (.pop, 1) := by decide +kernel
theorem dL_law_603 : decode cL_law 603 = .ok (.aload_n 2, 1) := by decide +kernel
theorem dL_law_604 : decode cL_law 604 = .ok (.aload_n 0, 1) := by decide +kernel
theorem dL_law_605 : decode cL_law 605 = .ok (.iload_n 3, 1) := by decide +kernel
theorem dL_law_606 : decode cL_law 606 = .ok (.iconst 1, 1) := by decide +kernel
theorem dL_law_607 : decode cL_law 607 = .ok (.iadd, 1) := by decide +kernel
theorem dL_law_608 : decode cL_law 608 = .ok (.iaload, 1) := by decide +kernel
theorem dL_law_609 : decode cL_law 609 = .ok (.aload_n 0, 1) := by decide +kernel
theorem dL_law_610 : decode cL_law 610 = .ok (.iload_n 3, 1) := by decide +kernel
theorem dL_law_611 : decode cL_law 611 = .ok (.iconst 2, 1) := by decide +kernel
theorem dL_law_612 : decode cL_law 612 = .ok (.iadd, 1) := by decide +kernel
theorem dL_law_613 : decode cL_law 613 = .ok (.iaload, 1) := by decide +kernel
theorem dL_law_614 : decode cL_law 614 = .ok (.aload_n 0, 1) := by decide +kernel
theorem dL_law_615 : decode cL_law 615 = .ok (.iload_n 3, 1) := by decide +kernel
theorem dL_law_616 : decode cL_law 616 = .ok (.iconst 3, 1) := by decide +kernel
theorem dL_law_617 : decode cL_law 617 = .ok (.iadd, 1) := by decide +kernel
theorem dL_law_618 : decode cL_law 618 = .ok (.iaload, 1) := by decide +kernel
theorem dL_law_619 : decode cL_law 619 = .ok (.aload_n 0, 1) := by decide +kernel
theorem dL_law_620 : decode cL_law 620 = .ok (.iload_n 3, 1) := by decide +kernel
theorem dL_law_621 : decode cL_law 621 = .ok (.iconst 4, 1) := by decide +kernel
theorem dL_law_622 : decode cL_law 622 = .ok (.iadd, 1) := by decide +kernel
theorem dL_law_623 : decode cL_law 623 = .ok (.iaload, 1) := by decide +kernel
theorem dL_law_624 : decode cL_law 624 = .ok (.aload_n 0, 1) := by decide +kernel
theorem dL_law_625 : decode cL_law 625 = .ok (.iload_n 3, 1) := by decide +kernel
theorem dL_law_626 : decode cL_law 626 = .ok (.iconst 5, 1) := by decide +kernel
theorem dL_law_627 : decode cL_law 627 = .ok (.iadd, 1) := by decide +kernel
theorem dL_law_628 : decode cL_law 628 = .ok (.iaload, 1) := by decide +kernel
theorem dL_law_629 : decode cL_law 629 = .ok (.invokevirtual 65, 3) := by decide +kernel
theorem dL_law_632 : decode cL_law 632 = .ok (.pop, 1) := by decide +kernel
theorem dL_law_633 : decode cL_law 633 = .ok (.goto 742, 3) := by decide +kernel
theorem dL_law_636 : decode cL_law 636 = .ok (.aload_n 1, 1) := by decide +kernel
theorem dL_law_637 : decode cL_law 637 = .ok (.aload_n 0, 1) := by decide +kernel
theorem dL_law_638 : decode cL_law 638 = .ok (.iload_n 3, 1) := by decide +kernel
theorem dL_law_639 : decode cL_law 639 = .ok (.iconst 1, 1) := by decide +kernel
theorem dL_law_640 : decode cL_law 640 = .ok (.iadd, 1) := by decide +kernel
theorem dL_law_641 : decode cL_law 641 = .ok (.iaload, 1) := by decide +kernel
theorem dL_law_642 : decode cL_law 642 = .ok (.aload_n 0, 1) := by decide +kernel
theorem dL_law_643 : decode cL_law 643 = .ok (.iload_n 3, 1) := by decide +kernel
theorem dL_law_644 : decode cL_law 644 = .ok (.iconst 2, 1) := by decide +kernel
theorem dL_law_645 : decode cL_law 645 = .ok (.iadd, 1) := by decide +kernel
theorem dL_law_646 : decode cL_law 646 = .ok (.iaload, 1) := by decide +kernel
theorem dL_law_647 : decode cL_law 647 = .ok (.aload_n 0, 1) := by decide +kernel
theorem dL_law_648 : decode cL_law 648 = .ok (.iload_n 3, 1) := by decide +kernel
theorem dL_law_649 : decode cL_law 649 = .ok (.iconst 3, 1) := by decide +kernel
theorem dL_law_650 : decode cL_law 650 = .ok (.iadd, 1) := by decide +kernel
theorem dL_law_651 : decode cL_law 651 = .ok (.iaload, 1) := by decide +kernel
theorem dL_law_652 : decode cL_law 652 = .ok (.aload_n 0, 1) := by decide +kernel
theorem dL_law_653 : decode cL_law 653 = .ok (.iload_n 3, 1) := by decide +kernel
theorem dL_law_654 : decode cL_law 654 = .ok (.iconst 4, 1) := by decide +kernel
theorem dL_law_655 : decode cL_law 655 = .ok (.iadd, 1) := by decide +kernel
theorem dL_law_656 : decode cL_law 656 = .ok (.iaload, 1) := by decide +kernel
theorem dL_law_657 : decode cL_law 657 = .ok (.aload_n 0, 1) := by decide +kernel
theorem dL_law_658 : decode cL_law 658 = .ok (.iload_n 3, 1) := by decide +kernel
theorem dL_law_659 : decode cL_law 659 = .ok (.iconst 5, 1) := by decide +kernel
theorem dL_law_660 : decode cL_law 660 = .ok (.iadd, 1) := by decide +kernel
theorem dL_law_661 : decode cL_law 661 = .ok (.iaload, 1) := by decide +kernel
theorem dL_law_662 : decode cL_law 662 = .ok (.invokevirtual 66, 3) := by decide +kernel
theorem dL_law_665 : decode cL_law 665 = .ok (.pop, 1) := by decide +kernel
theorem dL_law_666 : decode cL_law 666 = .ok (.aload_n 2, 1) := by decide +kernel
theorem dL_law_667 : decode cL_law 667 = .ok (.aload_n 0, 1) := by decide +kernel
theorem dL_law_668 : decode cL_law 668 = .ok (.iload_n 3, 1) := by decide +kernel
theorem dL_law_669 : decode cL_law 669 = .ok (.iconst 1, 1) := by decide +kernel
theorem dL_law_670 : decode cL_law 670 = .ok (.iadd, 1) := by decide +kernel
theorem dL_law_671 : decode cL_law 671 = .ok (.iaload, 1) := by decide +kernel
theorem dL_law_672 : decode cL_law 672 = .ok (.aload_n 0, 1) := by decide +kernel
theorem dL_law_673 : decode cL_law 673 = .ok (.iload_n 3, 1) := by decide +kernel
theorem dL_law_674 : decode cL_law 674 = .ok (.iconst 2, 1) := by decide +kernel
theorem dL_law_675 : decode cL_law 675 = .ok (.iadd, 1) := by decide +kernel
theorem dL_law_676 : decode cL_law 676 = .ok (.iaload, 1) := by decide +kernel
theorem dL_law_677 : decode cL_law 677 = .ok (.aload_n 0, 1) := by decide +kernel
theorem dL_law_678 : decode cL_law 678 = .ok (.iload_n 3, 1) := by decide +kernel
theorem dL_law_679 : decode cL_law 679 = .ok (.iconst 3, 1) := by decide +kernel
theorem dL_law_680 : decode cL_law 680 = .ok (.iadd, 1) := by decide +kernel
theorem dL_law_681 : decode cL_law 681 = .ok (.iaload, 1) := by decide +kernel
theorem dL_law_682 : decode cL_law 682 = .ok (.aload_n 0, 1) := by decide +kernel
theorem dL_law_683 : decode cL_law 683 = .ok (.iload_n 3, 1) := by decide +kernel
theorem dL_law_684 : decode cL_law 684 = .ok (.iconst 4, 1) := by decide +kernel
theorem dL_law_685 : decode cL_law 685 = .ok (.iadd, 1) := by decide +kernel
theorem dL_law_686 : decode cL_law 686 = .ok (.iaload, 1) := by decide +kernel
theorem dL_law_687 : decode cL_law 687 = .ok (.aload_n 0, 1) := by decide +kernel
theorem dL_law_688 : decode cL_law 688 = .ok (.iload_n 3, 1) := by decide +kernel
theorem dL_law_689 : decode cL_law 689 = .ok (.iconst 5, 1) := by decide +kernel
theorem dL_law_690 : decode cL_law 690 = .ok (.iadd, 1) := by decide +kernel
theorem dL_law_691 : decode cL_law 691 = .ok (.iaload, 1) := by decide +kernel
theorem dL_law_692 : decode cL_law 692 = .ok (.invokevirtual 69, 3) := by decide +kernel
theorem dL_law_695 : decode cL_law 695 = .ok (.pop, 1) := by decide +kernel
theorem dL_law_696 : decode cL_law 696 = .ok (.goto 679, 3) := by decide +kernel
theorem dL_law_699 : decode cL_law 699 = .ok (.aload_n 1, 1) := by decide +kernel
theorem dL_law_700 : decode cL_law 700 = .ok (.aload_n 0, 1) := by decide +kernel
theorem dL_law_701 : decode cL_law 701 = .ok (.iload_n 3, 1) := by decide +kernel
theorem dL_law_702 : decode cL_law 702 = .ok (.iconst 1, 1) := by decide +kernel
theorem dL_law_703 : decode cL_law 703 = .ok (.iadd, 1) := by decide +kernel
theorem dL_law_704 : decode cL_law 704 = .ok (.iaload, 1) := by decide +kernel
theorem dL_law_705 : decode cL_law 705 = .ok (.aload_n 0, 1) := by decide +kernel
theorem dL_law_706 : decode cL_law 706 = .ok (.iload_n 3, 1) := by decide +kernel
theorem dL_law_707 : decode cL_law 707 = .ok (.iconst 2, 1) := by decide +kernel
theorem dL_law_708 : decode cL_law 708 = .ok (.iadd, 1) := by decide +kernel
theorem dL_law_709 : decode cL_law 709 = .ok (.iaload, 1) := by decide +kernel
theorem dL_law_710 : decode cL_law 710 = .ok (.aload_n 0, 1) := by decide +kernel
theorem dL_law_711 : decode cL_law 711 = .ok (.iload_n 3, 1) := by decide +kernel
theorem dL_law_712 : decode cL_law 712 = .ok (.iconst 3, 1) := by decide +kernel
theorem dL_law_713 : decode cL_law 713 = .ok (.iadd, 1) := by decide +kernel
theorem dL_law_714 : decode cL_law 714 = .ok (.iaload, 1) := by decide +kernel
theorem dL_law_715 : decode cL_law 715 = .ok (.aload_n 0, 1) := by decide +kernel
theorem dL_law_716 : decode cL_law 716 = .ok (.iload_n 3, 1) := by decide +kernel
theorem dL_law_717 : decode cL_law 717 = .ok (.iconst 4, 1) := by decide +kernel
theorem dL_law_718 : decode cL_law 718 = .ok (.iadd, 1) := by decide +kernel
theorem dL_law_719 : decode cL_law 719 = .ok (.iaload, 1) := by decide +kernel
theorem dL_law_720 : decode cL_law 720 = .ok (.aload_n 0, 1) := by decide +kernel
theorem dL_law_721 : decode cL_law 721 = .ok (.iload_n 3, 1) := by decide +kernel
theorem dL_law_722 : decode cL_law 722 = .ok (.iconst 5, 1) := by decide +kernel
theorem dL_law_723 : decode cL_law 723 = .ok (.iadd, 1) := by decide +kernel
theorem dL_law_724 : decode cL_law 724 = .ok (.iaload, 1) := by decide +kernel
theorem dL_law_725 : decode cL_law 725 = .ok (.invokevirtual 70, 3) := by decide +kernel
theorem dL_law_728 : decode cL_law 728 = .ok (.pop, 1) := by decide +kernel
theorem dL_law_729 : decode cL_law 729 = .ok (.aload_n 2, 1) := by decide +kernel
theorem dL_law_730 : decode cL_law 730 = .ok (.aload_n 0, 1) := by decide +kernel
theorem dL_law_731 : decode cL_law 731 = .ok (.iload_n 3, 1) := by decide +kernel
theorem dL_law_732 : decode cL_law 732 = .ok (.iconst 1, 1) := by decide +kernel
theorem dL_law_733 : decode cL_law 733 = .ok (.iadd, 1) := by decide +kernel
theorem dL_law_734 : decode cL_law 734 = .ok (.iaload, 1) := by decide +kernel
theorem dL_law_735 : decode cL_law 735 = .ok (.aload_n 0, 1) := by decide +kernel
theorem dL_law_736 : decode cL_law 736 = .ok (.iload_n 3, 1) := by decide +kernel
theorem dL_law_737 : decode cL_law 737 = .ok (.iconst 2, 1) := by decide +kernel
theorem dL_law_738 : decode cL_law 738 = .ok (.iadd, 1) := by decide +kernel
theorem dL_law_739 : decode cL_law 739 = .ok (.iaload, 1) := by decide +kernel
theorem dL_law_740 : decode cL_law 740 = .ok (.aload_n 0, 1) := by decide +kernel
theorem dL_law_741 : decode cL_law 741 = .ok (.iload_n 3, 1) := by decide +kernel
theorem dL_law_742 : decode cL_law 742 = .ok (.iconst 3, 1) := by decide +kernel
theorem dL_law_743 : decode cL_law 743 = .ok (.iadd, 1) := by decide +kernel
theorem dL_law_744 : decode cL_law 744 = .ok (.iaload, 1) := by decide +kernel
theorem dL_law_745 : decode cL_law 745 = .ok (.aload_n 0, 1) := by decide +kernel
theorem dL_law_746 : decode cL_law 746 = .ok (.iload_n 3, 1) := by decide +kernel
theorem dL_law_747 : decode cL_law 747 = .ok (.iconst 4, 1) := by decide +kernel
theorem dL_law_748 : decode cL_law 748 = .ok (.iadd, 1) := by decide +kernel
theorem dL_law_749 : decode cL_law 749 = .ok (.iaload, 1) := by decide +kernel
theorem dL_law_750 : decode cL_law 750 = .ok (.aload_n 0, 1) := by decide +kernel
theorem dL_law_751 : decode cL_law 751 = .ok (.iload_n 3, 1) := by decide +kernel
theorem dL_law_752 : decode cL_law 752 = .ok (.iconst 5, 1) := by decide +kernel
theorem dL_law_753 : decode cL_law 753 = .ok (.iadd, 1) := by decide +kernel
theorem dL_law_754 : decode cL_law 754 = .ok (.iaload, 1) := by decide +kernel
theorem dL_law_755 : decode cL_law 755 = .ok (.invokevirtual 73, 3) := by decide +kernel
theorem dL_law_758 : decode cL_law 758 = .ok (.pop, 1) := by decide +kernel
theorem dL_law_759 : decode cL_law 759 = .ok (.goto 616, 3) := by decide +kernel
theorem dL_law_762 : decode cL_law 762 = .ok (.aload_n 1, 1) := by decide +kernel
theorem dL_law_763 : decode cL_law 763 = .ok (.aload_n 0, 1) := by decide +kernel
theorem dL_law_764 : decode cL_law 764 = .ok (.iload_n 3, 1) := by decide +kernel
theorem dL_law_765 : decode cL_law 765 = .ok (.iconst 1, 1) := by decide +kernel
theorem dL_law_766 : decode cL_law 766 = .ok (.iadd, 1) := by decide +kernel
theorem dL_law_767 : decode cL_law 767 = .ok (.iaload, 1) := by decide +kernel
theorem dL_law_768 : decode cL_law 768 = .ok (.aload_n 0, 1) := by decide +kernel
theorem dL_law_769 : decode cL_law 769 = .ok (.iload_n 3, 1) := by decide +kernel
theorem dL_law_770 : decode cL_law 770 = .ok (.iconst 2, 1) := by decide +kernel
theorem dL_law_771 : decode cL_law 771 = .ok (.iadd, 1) := by decide +kernel
theorem dL_law_772 : decode cL_law 772 = .ok (.iaload, 1) := by decide +kernel
theorem dL_law_773 : decode cL_law 773 = .ok (.invokevirtual 74, 3) := by decide +kernel
theorem dL_law_776 : decode cL_law 776 = .ok (.pop, 1) := by decide +kernel
theorem dL_law_777 : decode cL_law 777 = .ok (.aload_n 2, 1) := by decide +kernel
theorem dL_law_778 : decode cL_law 778 = .ok (.aload_n 0, 1) := by decide +kernel
theorem dL_law_779 : decode cL_law 779 = .ok (.iload_n 3, 1) := by decide +kernel
theorem dL_law_780 : decode cL_law 780 = .ok (.iconst 1, 1) := by decide +kernel
theorem dL_law_781 : decode cL_law 781 = .ok (.iadd, 1) := by decide +kernel
theorem dL_law_782 : decode cL_law 782 = .ok (.iaload, 1) := by decide +kernel
theorem dL_law_783 : decode cL_law 783 = .ok (.aload_n 0, 1) := by decide +kernel
theorem dL_law_784 : decode cL_law 784 = .ok (.iload_n 3, 1) := by decide +kernel
theorem dL_law_785 : decode cL_law 785 = .ok (.iconst 2, 1) := by decide +kernel
theorem dL_law_786 : decode cL_law 786 = .ok (.iadd, 1) := by decide +kernel
theorem dL_law_787 : decode cL_law 787 = .ok (.iaload, 1) := by decide +kernel
theorem dL_law_788 : decode cL_law 788 = .ok (.invokevirtual 77, 3) := by decide +kernel
theorem dL_law_791 : decode cL_law 791 = .ok (.pop, 1) := by decide +kernel
theorem dL_law_792 : decode cL_law 792 = .ok (.goto 583, 3) := by decide +kernel
theorem dL_law_795 : decode cL_law 795 = .ok (.aload_n 1, 1) := by decide +kernel
theorem dL_law_796 : decode cL_law 796 = .ok (.aload_n 0, 1) := by decide +kernel
theorem dL_law_797 : decode cL_law 797 = .ok (.iload_n 3, 1) := by decide +kernel
theorem dL_law_798 : decode cL_law 798 = .ok (.iconst 1, 1) := by decide +kernel
theorem dL_law_799 : decode cL_law 799 = .ok (.iadd, 1) := by decide +kernel
theorem dL_law_800 : decode cL_law 800 = .ok (.iaload, 1) := by decide +kernel
theorem dL_law_801 : decode cL_law 801 = .ok (.invokevirtual 78, 3) := by decide +kernel
theorem dL_law_804 : decode cL_law 804 = .ok (.pop, 1) := by decide +kernel
theorem dL_law_805 : decode cL_law 805 = .ok (.aload_n 2, 1) := by decide +kernel
theorem dL_law_806 : decode cL_law 806 = .ok (.aload_n 0, 1) := by decide +kernel
theorem dL_law_807 : decode cL_law 807 = .ok (.iload_n 3, 1) := by decide +kernel
theorem dL_law_808 : decode cL_law 808 = .ok (.iconst 1, 1) := by decide +kernel
theorem dL_law_809 : decode cL_law 809 = .ok (.iadd, 1) := by decide +kernel
theorem dL_law_810 : decode cL_law 810 = .ok (.iaload, 1) := by decide +kernel
theorem dL_law_811 : decode cL_law 811 = .ok (.invokevirtual 81, 3) := by decide +kernel
theorem dL_law_814 : decode cL_law 814 = .ok (.pop, 1) := by decide +kernel
theorem dL_law_815 : decode cL_law 815 = .ok (.goto 560, 3) := by decide +kernel
theorem dL_law_818 : decode cL_law 818 = .ok (.aload_n 1, 1) := by decide +kernel
theorem dL_law_819 : decode cL_law 819 = .ok (.aload_n 0, 1) := by decide +kernel
theorem dL_law_820 : decode cL_law 820 = .ok (.iload_n 3, 1) := by decide +kernel
theorem dL_law_821 : decode cL_law 821 = .ok (.iconst 1, 1) := by decide +kernel
theorem dL_law_822 : decode cL_law 822 = .ok (.iadd, 1) := by decide +kernel
theorem dL_law_823 : decode cL_law 823 = .ok (.iaload, 1) := by decide +kernel
theorem dL_law_824 : decode cL_law 824 = .ok (.aload_n 0, 1) := by decide +kernel
theorem dL_law_825 : decode cL_law 825 = .ok (.iload_n 3, 1) := by decide +kernel
theorem dL_law_826 : decode cL_law 826 = .ok (.iconst 2, 1) := by decide +kernel
theorem dL_law_827 : decode cL_law 827 = .ok (.iadd, 1) := by decide +kernel
theorem dL_law_828 : decode cL_law 828 = .ok (.iaload, 1) := by decide +kernel
theorem dL_law_829 : decode cL_law 829 = .ok (.invokevirtual 82, 3) := by decide +kernel
theorem dL_law_832 : decode cL_law 832 = .ok (.pop, 1) := by decide +kernel
theorem dL_law_833 : decode cL_law 833 = .ok (.aload_n 2, 1) := by decide +kernel
theorem dL_law_834 : decode cL_law 834 = .ok (.aload_n 0, 1) := by decide +kernel
theorem dL_law_835 : decode cL_law 835 = .ok (.iload_n 3, 1) := by decide +kernel
theorem dL_law_836 : decode cL_law 836 = .ok (.iconst 1, 1) := by decide +kernel
theorem dL_law_837 : decode cL_law 837 = .ok (.iadd, 1) := by decide +kernel
theorem dL_law_838 : decode cL_law 838 = .ok (.iaload, 1) := by decide +kernel
theorem dL_law_839 : decode cL_law 839 = .ok (.aload_n 0, 1) := by decide +kernel
theorem dL_law_840 : decode cL_law 840 = .ok (.iload_n 3, 1) := by decide +kernel
theorem dL_law_841 : decode cL_law 841 = .ok (.iconst 2, 1) := by decide +kernel
theorem dL_law_842 : decode cL_law 842 = .ok (.iadd, 1) := by decide +kernel
theorem dL_law_843 : decode cL_law 843 = .ok (.iaload, 1) := by decide +kernel
theorem dL_law_844 : decode cL_law 844 = .ok (.invokevirtual 85, 3) := by decide +kernel
theorem dL_law_847 : decode cL_law 847 = .ok (.pop, 1) := by decide +kernel
theorem dL_law_848 : decode cL_law 848 = .ok (.goto 527, 3) := by decide +kernel
theorem dL_law_851 : decode cL_law 851 = .ok (.aload_n 1, 1) := by decide +kernel
theorem dL_law_852 : decode cL_law 852 = .ok (.aload_n 0, 1) := by decide +kernel
theorem dL_law_853 : decode cL_law 853 = .ok (.iload_n 3, 1) := by decide +kernel
theorem dL_law_854 : decode cL_law 854 = .ok (.iconst 1, 1) := by decide +kernel
theorem dL_law_855 : decode cL_law 855 = .ok (.iadd, 1) := by decide +kernel
theorem dL_law_856 : decode cL_law 856 = .ok (.iaload, 1) := by decide +kernel
theorem dL_law_857 : decode cL_law 857 = .ok (.invokevirtual 86, 3) := by decide +kernel
theorem dL_law_860 : decode cL_law 860 = .ok (.pop, 1) := by decide +kernel
theorem dL_law_861 : decode cL_law 861 = .ok (.aload_n 2, 1) := by decide +kernel
theorem dL_law_862 : decode cL_law 862 = .ok (.aload_n 0, 1) := by decide +kernel
theorem dL_law_863 : decode cL_law 863 = .ok (.iload_n 3, 1) := by decide +kernel
theorem dL_law_864 : decode cL_law 864 = .ok (.iconst 1, 1) := by decide +kernel
theorem dL_law_865 : decode cL_law 865 = .ok (.iadd, 1) := by decide +kernel
theorem dL_law_866 : decode cL_law 866 = .ok (.iaload, 1) := by decide +kernel
theorem dL_law_867 : decode cL_law 867 = .ok (.invokevirtual 89, 3) := by decide +kernel
theorem dL_law_870 : decode cL_law 870 = .ok (.pop, 1) := by decide +kernel
theorem dL_law_871 : decode cL_law 871 = .ok (.goto 504, 3) := by decide +kernel
theorem dL_law_874 : decode cL_law 874 = .ok (.aload_n 1, 1) := by decide +kernel
theorem dL_law_875 : decode cL_law 875 = .ok (.invokevirtual 90, 3) := by decide +kernel
theorem dL_law_878 : decode cL_law 878 = .ok (.pop, 1) := by decide +kernel
theorem dL_law_879 : decode cL_law 879 = .ok (.aload_n 2, 1) := by decide +kernel
theorem dL_law_880 : decode cL_law 880 = .ok (.invokevirtual 93, 3) := by decide +kernel
theorem dL_law_883 : decode cL_law 883 = .ok (.pop, 1) := by decide +kernel
theorem dL_law_884 : decode cL_law 884 = .ok (.goto 491, 3) := by decide +kernel
theorem dL_law_887 : decode cL_law 887 = .ok (.aload_n 1, 1) := by decide +kernel
theorem dL_law_888 : decode cL_law 888 = .ok (.aload_n 0, 1) := by decide +kernel
theorem dL_law_889 : decode cL_law 889 = .ok (.iload_n 3, 1) := by decide +kernel
theorem dL_law_890 : decode cL_law 890 = .ok (.iconst 1, 1) := by decide +kernel
theorem dL_law_891 : decode cL_law 891 = .ok (.iadd, 1) := by decide +kernel
theorem dL_law_892 : decode cL_law 892 = .ok (.iaload, 1) := by decide +kernel
theorem dL_law_893 : decode cL_law 893 = .ok (.invokevirtual 94, 3) := by decide +kernel
theorem dL_law_896 : decode cL_law 896 = .ok (.pop, 1) := by decide +kernel
theorem dL_law_897 : decode cL_law 897 = .ok (.aload_n 2, 1) := by decide +kernel
theorem dL_law_898 : decode cL_law 898 = .ok (.aload_n 0, 1) := by decide +kernel
theorem dL_law_899 : decode cL_law 899 = .ok (.iload_n 3, 1) := by decide +kernel
theorem dL_law_900 : decode cL_law 900 = .ok (.iconst 1, 1) := by decide +kernel
theorem dL_law_901 : decode cL_law 901 = .ok (.iadd, 1) := by decide +kernel
theorem dL_law_902 : decode cL_law 902 = .ok (.iaload, 1) := by decide +kernel
theorem dL_law_903 : decode cL_law 903 = .ok (.invokevirtual 97, 3) := by decide +kernel
theorem dL_law_906 : decode cL_law 906 = .ok (.pop, 1) := by decide +kernel
theorem dL_law_907 : decode cL_law 907 = .ok (.goto 468, 3) := by decide +kernel
theorem dL_law_910 : decode cL_law 910 = .ok (.aload_n 1, 1) := by decide +kernel
theorem dL_law_911 : decode cL_law 911 = .ok (.aload_n 0, 1) := by decide +kernel
theorem dL_law_912 : decode cL_law 912 = .ok (.iload_n 3, 1) := by decide +kernel
theorem dL_law_913 : decode cL_law 913 = .ok (.iconst 1, 1) := by decide +kernel
theorem dL_law_914 : decode cL_law 914 = .ok (.iadd, 1) := by decide +kernel
theorem dL_law_915 : decode cL_law 915 = .ok (.iaload, 1) := by decide +kernel
theorem dL_law_916 : decode cL_law 916 = .ok (.invokevirtual 98, 3) := by decide +kernel
theorem dL_law_919 : decode cL_law 919 = .ok (.aload_n 2, 1) := by decide +kernel
theorem dL_law_920 : decode cL_law 920 = .ok (.aload_n 0, 1) := by decide +kernel
theorem dL_law_921 : decode cL_law 921 = .ok (.iload_n 3, 1) := by decide +kernel
theorem dL_law_922 : decode cL_law 922 = .ok (.iconst 1, 1) := by decide +kernel
theorem dL_law_923 : decode cL_law 923 = .ok (.iadd, 1) := by decide +kernel
theorem dL_law_924 : decode cL_law 924 = .ok (.iaload, 1) := by decide +kernel
theorem dL_law_925 : decode cL_law 925 = .ok (.invokevirtual 101, 3) := by decide +kernel
theorem dL_law_928 : decode cL_law 928 = .ok (.if_icmp .eq 447, 3) := by decide +kernel
theorem dL_law_933 : decode cL_law 933 = .ok (.aload_n 1, 1) := by decide +kernel
theorem dL_law_934 : decode cL_law 934 = .ok (.aload_n 0, 1) := by decide +kernel
theorem dL_law_935 : decode cL_law 935 = .ok (.iload_n 3, 1) := by decide +kernel
theorem dL_law_936 : decode cL_law 936 = .ok (.iconst 1, 1) := by decide +kernel
theorem dL_law_937 : decode cL_law 937 = .ok (.iadd, 1) := by decide +kernel
theorem dL_law_938 : decode cL_law 938 = .ok (.iaload, 1) := by decide +kernel
theorem dL_law_939 : decode cL_law 939 = .ok (.aload_n 0, 1) := by decide +kernel
theorem dL_law_940 : decode cL_law 940 = .ok (.iload_n 3, 1) := by decide +kernel
theorem dL_law_941 : decode cL_law 941 = .ok (.iconst 2, 1) := by decide +kernel
theorem dL_law_942 : decode cL_law 942 = .ok (.iadd, 1) := by decide +kernel
theorem dL_law_943 : decode cL_law 943 = .ok (.iaload, 1) := by decide +kernel
theorem dL_law_944 : decode cL_law 944 = .ok (.invokevirtual 102, 3) := by decide +kernel
theorem dL_law_947 : decode cL_law 947 = .ok (.pop, 1) := by decide +kernel
theorem dL_law_948 : decode cL_law 948 = .ok (.aload_n 2, 1) := by decide +kernel
theorem dL_law_949 : decode cL_law 949 = .ok (.aload_n 0, 1) := by decide +kernel
theorem dL_law_950 : decode cL_law 950 = .ok (.iload_n 3, 1) := by decide +kernel
theorem dL_law_951 : decode cL_law 951 = .ok (.iconst 1, 1) := by decide +kernel
theorem dL_law_952 : decode cL_law 952 = .ok (.iadd, 1) := by decide +kernel
theorem dL_law_953 : decode cL_law 953 = .ok (.iaload, 1) := by decide +kernel
theorem dL_law_954 : decode cL_law 954 = .ok (.aload_n 0, 1) := by decide +kernel
theorem dL_law_955 : decode cL_law 955 = .ok (.iload_n 3, 1) := by decide +kernel
theorem dL_law_956 : decode cL_law 956 = .ok (.iconst 2, 1) := by decide +kernel
theorem dL_law_957 : decode cL_law 957 = .ok (.iadd, 1) := by decide +kernel
theorem dL_law_958 : decode cL_law 958 = .ok (.iaload, 1) := by decide +kernel
theorem dL_law_959 : decode cL_law 959 = .ok (.invokevirtual 105, 3) := by decide +kernel
theorem dL_law_962 : decode cL_law 962 = .ok (.pop, 1) := by decide +kernel
theorem dL_law_963 : decode cL_law 963 = .ok (.goto 412, 3) := by decide +kernel
theorem dL_law_966 : decode cL_law 966 = .ok (.aload_n 1, 1) := by decide +kernel
theorem dL_law_967 : decode cL_law 967 = .ok (.aload_n 0, 1) := by decide +kernel
theorem dL_law_968 : decode cL_law 968 = .ok (.iload_n 3, 1) := by decide +kernel
theorem dL_law_969 : decode cL_law 969 = .ok (.iconst 1, 1) := by decide +kernel
theorem dL_law_970 : decode cL_law 970 = .ok (.iadd, 1) := by decide +kernel
theorem dL_law_971 : decode cL_law 971 = .ok (.iaload, 1) := by decide +kernel
theorem dL_law_972 : decode cL_law 972 = .ok (.invokevirtual 106, 3) := by decide +kernel
theorem dL_law_975 : decode cL_law 975 = .ok (.pop, 1) := by decide +kernel
theorem dL_law_976 : decode cL_law 976 = .ok (.aload_n 2, 1) := by decide +kernel
theorem dL_law_977 : decode cL_law 977 = .ok (.aload_n 0, 1) := by decide +kernel
theorem dL_law_978 : decode cL_law 978 = .ok (.iload_n 3, 1) := by decide +kernel
theorem dL_law_979 : decode cL_law 979 = .ok (.iconst 1, 1) := by decide +kernel
theorem dL_law_980 : decode cL_law 980 = .ok (.iadd, 1) := by decide +kernel
theorem dL_law_981 : decode cL_law 981 = .ok (.iaload, 1) := by decide +kernel
theorem dL_law_982 : decode cL_law 982 = .ok (.invokevirtual 109, 3) := by decide +kernel
theorem dL_law_985 : decode cL_law 985 = .ok (.pop, 1) := by decide +kernel
theorem dL_law_986 : decode cL_law 986 = .ok (.goto 389, 3) := by decide +kernel
theorem dL_law_989 : decode cL_law 989 = .ok (.aload_n 1, 1) := by decide +kernel
theorem dL_law_990 : decode cL_law 990 = .ok (.aload_n 0, 1) := by decide +kernel
theorem dL_law_991 : decode cL_law 991 = .ok (.iload_n 3, 1) := by decide +kernel
theorem dL_law_992 : decode cL_law 992 = .ok (.iconst 1, 1) := by decide +kernel
theorem dL_law_993 : decode cL_law 993 = .ok (.iadd, 1) := by decide +kernel
theorem dL_law_994 : decode cL_law 994 = .ok (.iaload, 1) := by decide +kernel
theorem dL_law_995 : decode cL_law 995 = .ok (.invokevirtual 110, 3) := by decide +kernel
theorem dL_law_998 : decode cL_law 998 = .ok (.pop, 1) := by decide +kernel
theorem dL_law_999 : decode cL_law 999 = .ok (.aload_n 2, 1) := by decide +kernel
theorem dL_law_1000 : decode cL_law 1000 = .ok (.aload_n 0, 1) := by decide +kernel
theorem dL_law_1001 : decode cL_law 1001 = .ok (.iload_n 3, 1) := by decide +kernel
theorem dL_law_1002 : decode cL_law 1002 = .ok (.iconst 1, 1) := by decide +kernel
theorem dL_law_1003 : decode cL_law 1003 = .ok (.iadd, 1) := by decide +kernel
theorem dL_law_1004 : decode cL_law 1004 = .ok (.iaload, 1) := by decide +kernel
theorem dL_law_1005 : decode cL_law 1005 = .ok (.invokevirtual 113, 3) := by decide +kernel
theorem dL_law_1008 : decode cL_law 1008 = .ok (.pop, 1) := by decide +kernel
theorem dL_law_1009 : decode cL_law 1009 = .ok (.goto 366, 3) := by decide +kernel
theorem dL_law_1012 : decode cL_law 1012 = .ok (.aload_n 1, 1) := by decide +kernel
theorem dL_law_1013 : decode cL_law 1013 = .ok (.invokevirtual 114, 3) := by decide +kernel
theorem dL_law_1016 : decode cL_law 1016 = .ok (.pop, 1) := by decide +kernel
theorem dL_law_1017 : decode cL_law 1017 = .ok (.aload_n 2, 1) := by decide +kernel
theorem dL_law_1018 : decode cL_law 1018 = .ok (.invokevirtual 117, 3) := by decide +kernel
theorem dL_law_1021 : decode cL_law 1021 = .ok (.pop, 1) := by decide +kernel
theorem dL_law_1022 : decode cL_law 1022 = .ok (.goto 353, 3) := by decide +kernel
theorem dL_law_1025 : decode cL_law 1025 = .ok (.aload_n 1, 1) := by decide +kernel
theorem dL_law_1026 : decode cL_law 1026 = .ok (.aload_n 0, 1) := by decide +kernel
theorem dL_law_1027 : decode cL_law 1027 = .ok (.iload_n 3, 1) := by decide +kernel
theorem dL_law_1028 : decode cL_law 1028 = .ok (.iconst 1, 1) := by decide +kernel
theorem dL_law_1029 : decode cL_law 1029 = .ok (.iadd, 1) := by decide +kernel
theorem dL_law_1030 : decode cL_law 1030 = .ok (.iaload, 1) := by decide +kernel
theorem dL_law_1031 : decode cL_law 1031 = .ok (.aload_n 0, 1) := by decide +kernel
theorem dL_law_1032 : decode cL_law 1032 = .ok (.iload_n 3, 1) := by decide +kernel
theorem dL_law_1033 : decode cL_law 1033 = .ok (.iconst 2, 1) := by decide +kernel
theorem dL_law_1034 : decode cL_law 1034 = .ok (.iadd, 1) := by decide +kernel
theorem dL_law_1035 : decode cL_law 1035 = .ok (.iaload, 1) := by decide +kernel
theorem dL_law_1036 : decode cL_law 1036 = .ok (.aload_n 0, 1) := by decide +kernel
theorem dL_law_1037 : decode cL_law 1037 = .ok (.iload_n 3, 1) := by decide +kernel
theorem dL_law_1038 : decode cL_law 1038 = .ok (.iconst 3, 1) := by decide +kernel
theorem dL_law_1039 : decode cL_law 1039 = .ok (.iadd, 1) := by decide +kernel
theorem dL_law_1040 : decode cL_law 1040 = .ok (.iaload, 1) := by decide +kernel
theorem dL_law_1041 : decode cL_law 1041 = .ok (.aload_n 0, 1) := by decide +kernel
theorem dL_law_1042 : decode cL_law 1042 = .ok (.iload_n 3, 1) := by decide +kernel
theorem dL_law_1043 : decode cL_law 1043 = .ok (.iconst 4, 1) := by decide +kernel
theorem dL_law_1044 : decode cL_law 1044 = .ok (.iadd, 1) := by decide +kernel
theorem dL_law_1045 : decode cL_law 1045 = .ok (.iaload, 1) := by decide +kernel
theorem dL_law_1046 : decode cL_law 1046 = .ok (.aload_n 0, 1) := by decide +kernel
theorem dL_law_1047 : decode cL_law 1047 = .ok (.iload_n 3, 1) := by decide +kernel
theorem dL_law_1048 : decode cL_law 1048 = .ok (.iconst 5, 1) := by decide +kernel
theorem dL_law_1049 : decode cL_law 1049 = .ok (.iadd, 1) := by decide +kernel
theorem dL_law_1050 : decode cL_law 1050 = .ok (.iaload, 1) := by decide +kernel
theorem dL_law_1051 : decode cL_law 1051 = .ok (.aload_n 0, 1) := by decide +kernel
theorem dL_law_1052 : decode cL_law 1052 = .ok (.iload_n 3, 1) := by decide +kernel
theorem dL_law_1053 : decode cL_law 1053 = .ok (.bipush 6, 2) := by decide +kernel
theorem dL_law_1055 : decode cL_law 1055 = .ok (.iadd, 1) := by decide +kernel
theorem dL_law_1056 : decode cL_law 1056 = .ok (.iaload, 1) := by decide +kernel
theorem dL_law_1057 : decode cL_law 1057 = .ok (.aload_n 0, 1) := by decide +kernel
theorem dL_law_1058 : decode cL_law 1058 = .ok (.iload_n 3, 1) := by decide +kernel
theorem dL_law_1059 : decode cL_law 1059 = .ok (.bipush 7, 2) := by decide +kernel
theorem dL_law_1061 : decode cL_law 1061 = .ok (.iadd, 1) := by decide +kernel
theorem dL_law_1062 : decode cL_law 1062 = .ok (.iaload, 1) := by decide +kernel
theorem dL_law_1063 : decode cL_law 1063 = .ok (.invokevirtual 118, 3) := by decide +kernel
theorem dL_law_1066 : decode cL_law 1066 = .ok (.pop, 1) := by decide +kernel
theorem dL_law_1067 : decode cL_law 1067 = .ok (.aload_n 2, 1) := by decide +kernel
theorem dL_law_1068 : decode cL_law 1068 = .ok (.aload_n 0, 1) := by decide +kernel
theorem dL_law_1069 : decode cL_law 1069 = .ok (.iload_n 3, 1) := by decide +kernel
theorem dL_law_1070 : decode cL_law 1070 = .ok (.iconst 1, 1) := by decide +kernel
theorem dL_law_1071 : decode cL_law 1071 = .ok (.iadd, 1) := by decide +kernel
theorem dL_law_1072 : decode cL_law 1072 = .ok (.iaload, 1) := by decide +kernel
theorem dL_law_1073 : decode cL_law 1073 = .ok (.aload_n 0, 1) := by decide +kernel
theorem dL_law_1074 : decode cL_law 1074 = .ok (.iload_n 3, 1) := by decide +kernel
theorem dL_law_1075 : decode cL_law 1075 = .ok (.iconst 2, 1) := by decide +kernel
theorem dL_law_1076 : decode cL_law 1076 = .ok (.iadd, 1) := by decide +kernel
theorem dL_law_1077 : decode cL_law 1077 = .ok (.iaload, 1) := by decide +kernel
theorem dL_law_1078 : decode cL_law 1078 = .ok (.aload_n 0, 1) := by decide +kernel
theorem dL_law_1079 : decode cL_law 1079 = .ok (.iload_n 3, 1) := by decide +kernel
theorem dL_law_1080 : decode cL_law 1080 = .ok (.iconst 3, 1) := by decide +kernel
theorem dL_law_1081 : decode cL_law 1081 = .ok (.iadd, 1) := by decide +kernel
theorem dL_law_1082 : decode cL_law 1082 = .ok (.iaload, 1) := by decide +kernel
theorem dL_law_1083 : decode cL_law 1083 = .ok (.aload_n 0, 1) := by decide +kernel
theorem dL_law_1084 : decode cL_law 1084 = .ok (.iload_n 3, 1) := by decide +kernel
theorem dL_law_1085 : decode cL_law 1085 = .ok (.iconst 4, 1) := by decide +kernel
theorem dL_law_1086 : decode cL_law 1086 = .ok (.iadd, 1) := by decide +kernel
theorem dL_law_1087 : decode cL_law 1087 = .ok (.iaload, 1) := by decide +kernel
theorem dL_law_1088 : decode cL_law 1088 = .ok (.aload_n 0, 1) := by decide +kernel
theorem dL_law_1089 : decode cL_law 1089 = .ok (.iload_n 3, 1) := by decide +kernel
theorem dL_law_1090 : decode cL_law 1090 = .ok (.iconst 5, 1) := by decide +kernel
theorem dL_law_1091 : decode cL_law 1091 = .ok (.iadd, 1) := by decide +kernel
theorem dL_law_1092 : decode cL_law 1092 = .ok (.iaload, 1) := by decide +kernel
theorem dL_law_1093 : decode cL_law 1093 = .ok (.aload_n 0, 1) := by decide +kernel
theorem dL_law_1094 : decode cL_law 1094 = .ok (.iload_n 3, 1) := by decide +kernel
theorem dL_law_1095 : decode cL_law 1095 = .ok (.bipush 6, 2) := by decide +kernel
theorem dL_law_1097 : decode cL_law 1097 = .ok (.iadd, 1) := by decide +kernel
theorem dL_law_1098 : decode cL_law 1098 = .ok (.iaload, 1) := by decide +kernel
theorem dL_law_1099 : decode cL_law 1099 = .ok (.aload_n 0, 1) := by decide +kernel
theorem dL_law_1100 : decode cL_law 1100 = .ok (.iload_n 3, 1) := by decide +kernel
theorem dL_law_1101 : decode cL_law 1101 = .ok (.bipush 7, 2) := by decide +kernel
theorem dL_law_1103 : decode cL_law 1103 = .ok (.iadd, 1) := by decide +kernel
theorem dL_law_1104 : decode cL_law 1104 = .ok (.iaload, 1) := by decide +kernel
theorem dL_law_1105 : decode cL_law 1105 = .ok (.invokevirtual 122, 3) := by decide +kernel
theorem dL_law_1108 : decode cL_law 1108 = .ok (.pop, 1) := by decide +kernel
theorem dL_law_1109 : decode cL_law 1109 = .ok (.goto 266, 3) := by decide +kernel
theorem dL_law_1112 : decode cL_law 1112 = .ok (.aload_n 1, 1) := by decide +kernel
theorem dL_law_1113 : decode cL_law 1113 = .ok (.aload_n 0, 1) := by decide +kernel
theorem dL_law_1114 : decode cL_law 1114 = .ok (.iload_n 3, 1) := by decide +kernel
theorem dL_law_1115 : decode cL_law 1115 = .ok (.iconst 1, 1) := by decide +kernel
theorem dL_law_1116 : decode cL_law 1116 = .ok (.iadd, 1) := by decide +kernel
theorem dL_law_1117 : decode cL_law 1117 = .ok (.iaload, 1) := by decide +kernel
theorem dL_law_1118 : decode cL_law 1118 = .ok (.aload_n 0, 1) := by decide +kernel
theorem dL_law_1119 : decode cL_law 1119 = .ok (.iload_n 3, 1) := by decide +kernel
theorem dL_law_1120 : decode cL_law 1120 = .ok (.iconst 2, 1) := by decide +kernel
theorem dL_law_1121 : decode cL_law 1121 = .ok (.iadd, 1) := by decide +kernel
theorem dL_law_1122 : decode cL_law 1122 = .ok (.iaload, 1) := by decide +kernel
theorem dL_law_1123 : decode cL_law 1123 = .ok (.aload_n 0, 1) := by decide +kernel
theorem dL_law_1124 : decode cL_law 1124 = .ok (.iload_n 3, 1) := by decide +kernel
theorem dL_law_1125 : decode cL_law 1125 = .ok (.iconst 3, 1) := by decide +kernel
theorem dL_law_1126 : decode cL_law 1126 = .ok (.iadd, 1) := by decide +kernel
theorem dL_law_1127 : decode cL_law 1127 = .ok (.iaload, 1) := by decide +kernel
theorem dL_law_1128 : decode cL_law 1128 = .ok (.aload_n 0, 1) := by decide +kernel
theorem dL_law_1129 : decode cL_law 1129 = .ok (.iload_n 3, 1) := by decide +kernel
theorem dL_law_1130 : decode cL_law 1130 = .ok (.iconst 4, 1) := by decide +kernel
theorem dL_law_1131 : decode cL_law 1131 = .ok (.iadd, 1) := by decide +kernel
theorem dL_law_1132 : decode cL_law 1132 = .ok (.iaload, 1) := by decide +kernel
theorem dL_law_1133 : decode cL_law 1133 = .ok (.invokevirtual 123, 3) := by decide +kernel
theorem dL_law_1136 : decode cL_law 1136 = .ok (.pop, 1) := by decide +kernel
theorem dL_law_1137 : decode cL_law 1137 = .ok (.aload_n 2, 1) := by decide +kernel
theorem dL_law_1138 : decode cL_law 1138 = .ok (.aload_n 0, 1) := by decide +kernel
theorem dL_law_1139 : decode cL_law 1139 = .ok (.iload_n 3, 1) := by decide +kernel
theorem dL_law_1140 : decode cL_law 1140 = .ok (.iconst 1, 1) := by decide +kernel
theorem dL_law_1141 : decode cL_law 1141 = .ok (.iadd, 1) := by decide +kernel
theorem dL_law_1142 : decode cL_law 1142 = .ok (.iaload, 1) := by decide +kernel
theorem dL_law_1143 : decode cL_law 1143 = .ok (.aload_n 0, 1) := by decide +kernel
theorem dL_law_1144 : decode cL_law 1144 = .ok (.iload_n 3, 1) := by decide +kernel
theorem dL_law_1145 : decode cL_law 1145 = .ok (.iconst 2, 1) := by decide +kernel
theorem dL_law_1146 : decode cL_law 1146 = .ok (.iadd, 1) := by decide +kernel
theorem dL_law_1147 : decode cL_law 1147 = .ok (.iaload, 1) := by decide +kernel
theorem dL_law_1148 : decode cL_law 1148 = .ok (.aload_n 0, 1) := by decide +kernel
theorem dL_law_1149 : decode cL_law 1149 = .ok (.iload_n 3, 1) := by decide +kernel
theorem dL_law_1150 : decode cL_law 1150 = .ok (.iconst 3, 1) := by decide +kernel
theorem dL_law_1151 : decode cL_law 1151 = .ok (.iadd, 1) := by decide +kernel
theorem dL_law_1152 : decode cL_law 1152 = .ok (.iaload, 1) := by decide +kernel
theorem dL_law_1153 : decode cL_law 1153 = .ok (.aload_n 0, 1) := by decide +kernel
theorem dL_law_1154 : decode cL_law 1154 = .ok (.iload_n 3, 1) := by decide +kernel
theorem dL_law_1155 : decode cL_law 1155 = .ok (.iconst 4, 1) := by decide +kernel
theorem dL_law_1156 : decode cL_law 1156 = .ok (.iadd, 1) := by decide +kernel
theorem dL_law_1157 : decode cL_law 1157 = .ok (.iaload, 1) := by decide +kernel
theorem dL_law_1158 : decode cL_law 1158 = .ok (.invokevirtual 127, 3) := by decide +kernel
theorem dL_law_1161 : decode cL_law 1161 = .ok (.pop, 1) := by decide +kernel
theorem dL_law_1162 : decode cL_law 1162 = .ok (.goto 213, 3) := by decide +kernel
theorem dL_law_1165 : decode cL_law 1165 = .ok (.aload_n 1, 1) := by decide +kernel
theorem dL_law_1166 : decode cL_law 1166 = .ok (.aload_n 0, 1) := by decide +kernel
theorem dL_law_1167 : decode cL_law 1167 = .ok (.iload_n 3, 1) := by decide +kernel
theorem dL_law_1168 : decode cL_law 1168 = .ok (.iconst 1, 1) := by decide +kernel
theorem dL_law_1169 : decode cL_law 1169 = .ok (.iadd, 1) := by decide +kernel
theorem dL_law_1170 : decode cL_law 1170 = .ok (.iaload, 1) := by decide +kernel
theorem dL_law_1171 : decode cL_law 1171 = .ok (.aload_n 0, 1) := by decide +kernel
theorem dL_law_1172 : decode cL_law 1172 = .ok (.iload_n 3, 1) := by decide +kernel
theorem dL_law_1173 : decode cL_law 1173 = .ok (.iconst 2, 1) := by decide +kernel
theorem dL_law_1174 : decode cL_law 1174 = .ok (.iadd, 1) := by decide +kernel
theorem dL_law_1175 : decode cL_law 1175 = .ok (.iaload, 1) := by decide +kernel
theorem dL_law_1176 : decode cL_law 1176 = .ok (.aload_n 0, 1) := by decide +kernel
theorem dL_law_1177 : decode cL_law 1177 = .ok (.iload_n 3, 1) := by decide +kernel
theorem dL_law_1178 : decode cL_law 1178 = .ok (.iconst 3, 1) := by decide +kernel
theorem dL_law_1179 : decode cL_law 1179 = .ok (.iadd, 1) := by decide +kernel
theorem dL_law_1180 : decode cL_law 1180 = .ok (.iaload, 1) := by decide +kernel
theorem dL_law_1181 : decode cL_law 1181 = .ok (.invokevirtual 128, 3) := by decide +kernel
theorem dL_law_1184 : decode cL_law 1184 = .ok (.pop, 1) := by decide +kernel
theorem dL_law_1185 : decode cL_law 1185 = .ok (.aload_n 2, 1) := by decide +kernel
theorem dL_law_1186 : decode cL_law 1186 = .ok (.aload_n 0, 1) := by decide +kernel
theorem dL_law_1187 : decode cL_law 1187 = .ok (.iload_n 3, 1) := by decide +kernel
theorem dL_law_1188 : decode cL_law 1188 = .ok (.iconst 1, 1) := by decide +kernel
theorem dL_law_1189 : decode cL_law 1189 = .ok (.iadd, 1) := by decide +kernel
theorem dL_law_1190 : decode cL_law 1190 = .ok (.iaload, 1) := by decide +kernel
theorem dL_law_1191 : decode cL_law 1191 = .ok (.aload_n 0, 1) := by decide +kernel
theorem dL_law_1192 : decode cL_law 1192 = .ok (.iload_n 3, 1) := by decide +kernel
theorem dL_law_1193 : decode cL_law 1193 = .ok (.iconst 2, 1) := by decide +kernel
theorem dL_law_1194 : decode cL_law 1194 = .ok (.iadd, 1) := by decide +kernel
theorem dL_law_1195 : decode cL_law 1195 = .ok (.iaload, 1) := by decide +kernel
theorem dL_law_1196 : decode cL_law 1196 = .ok (.aload_n 0, 1) := by decide +kernel
theorem dL_law_1197 : decode cL_law 1197 = .ok (.iload_n 3, 1) := by decide +kernel
theorem dL_law_1198 : decode cL_law 1198 = .ok (.iconst 3, 1) := by decide +kernel
theorem dL_law_1199 : decode cL_law 1199 = .ok (.iadd, 1) := by decide +kernel
theorem dL_law_1200 : decode cL_law 1200 = .ok (.iaload, 1) := by decide +kernel
theorem dL_law_1201 : decode cL_law 1201 = .ok (.invokevirtual 131, 3) := by decide +kernel
theorem dL_law_1204 : decode cL_law 1204 = .ok (.pop, 1) := by decide +kernel
theorem dL_law_1205 : decode cL_law 1205 = .ok (.goto 170, 3) := by decide +kernel
theorem dL_law_1208 : decode cL_law 1208 = .ok (.aload_n 1, 1) := by decide +kernel
theorem dL_law_1209 : decode cL_law 1209 = .ok (.invokevirtual 132, 3) := by decide +kernel
theorem dL_law_1212 : decode cL_law 1212 = .ok (.pop, 1) := by decide +kernel
theorem dL_law_1213 : decode cL_law 1213 = .ok (.aload_n 2, 1) := by decide +kernel
theorem dL_law_1214 : decode cL_law 1214 = .ok (.invokevirtual 135, 3) := by decide +kernel
theorem dL_law_1217 : decode cL_law 1217 = .ok (.pop, 1) := by decide +kernel
theorem dL_law_1218 : decode cL_law 1218 = .ok (.goto 157, 3) := by decide +kernel
theorem dL_law_1221 : decode cL_law 1221 = .ok (.aload_n 1, 1) := by decide +kernel
theorem dL_law_1222 : decode cL_law 1222 = .ok (.aload_n 0, 1) := by decide +kernel
theorem dL_law_1223 : decode cL_law 1223 = .ok (.iload_n 3, 1) := by decide +kernel
theorem dL_law_1224 : decode cL_law 1224 = .ok (.iconst 1, 1) := by decide +kernel
theorem dL_law_1225 : decode cL_law 1225 = .ok (.iadd, 1) := by decide +kernel
theorem dL_law_1226 : decode cL_law 1226 = .ok (.iaload, 1) := by decide +kernel
theorem dL_law_1227 : decode cL_law 1227 = .ok (.aload_n 0, 1) := by decide +kernel
theorem dL_law_1228 : decode cL_law 1228 = .ok (.iload_n 3, 1) := by decide +kernel
theorem dL_law_1229 : decode cL_law 1229 = .ok (.iconst 2, 1) := by decide +kernel
theorem dL_law_1230 : decode cL_law 1230 = .ok (.iadd, 1) := by decide +kernel
theorem dL_law_1231 : decode cL_law 1231 = .ok (.iaload, 1) := by decide +kernel
theorem dL_law_1232 : decode cL_law 1232 = .ok (.aload_n 0, 1) := by decide +kernel
theorem dL_law_1233 : decode cL_law 1233 = .ok (.iload_n 3, 1) := by decide +kernel
theorem dL_law_1234 : decode cL_law 1234 = .ok (.iconst 3, 1) := by decide +kernel
theorem dL_law_1235 : decode cL_law 1235 = .ok (.iadd, 1) := by decide +kernel
theorem dL_law_1236 : decode cL_law 1236 = .ok (.iaload, 1) := by decide +kernel
theorem dL_law_1237 : decode cL_law 1237 = .ok (.aload_n 0, 1) := by decide +kernel
theorem dL_law_1238 : decode cL_law 1238 = .ok (.iload_n 3, 1) := by decide +kernel
theorem dL_law_1239 : decode cL_law 1239 = .ok (.iconst 4, 1) := by decide +kernel
theorem dL_law_1240 : decode cL_law 1240 = .ok (.iadd, 1) := by decide +kernel
theorem dL_law_1241 : decode cL_law 1241 = .ok (.iaload, 1) := by decide +kernel
theorem dL_law_1242 : decode cL_law 1242 = .ok (.aload_n 0, 1) := by decide +kernel
theorem dL_law_1243 : decode cL_law 1243 = .ok (.iload_n 3, 1) := by decide +kernel
theorem dL_law_1244 : decode cL_law 1244 = .ok (.iconst 5, 1) := by decide +kernel
theorem dL_law_1245 : decode cL_law 1245 = .ok (.iadd, 1) := by decide +kernel
theorem dL_law_1246 : decode cL_law 1246 = .ok (.iaload, 1) := by decide +kernel
theorem dL_law_1247 : decode cL_law 1247 = .ok (.aload_n 0, 1) := by decide +kernel
theorem dL_law_1248 : decode cL_law 1248 = .ok (.iload_n 3, 1) := by decide +kernel
theorem dL_law_1249 : decode cL_law 1249 = .ok (.bipush 6, 2) := by decide +kernel
theorem dL_law_1251 : decode cL_law 1251 = .ok (.iadd, 1) := by decide +kernel
theorem dL_law_1252 : decode cL_law 1252 = .ok (.iaload, 1) := by decide +kernel
theorem dL_law_1253 : decode cL_law 1253 = .ok (.invokevirtual 136, 3) := by decide +kernel
theorem dL_law_1256 : decode cL_law 1256 = .ok (.pop, 1) := by decide +kernel
theorem dL_law_1257 : decode cL_law 1257 = .ok (.aload_n 2, 1) := by decide +kernel
theorem dL_law_1258 : decode cL_law 1258 = .ok (.aload_n 0, 1) := by decide +kernel
theorem dL_law_1259 : decode cL_law 1259 = .ok (.iload_n 3, 1) := by decide +kernel
theorem dL_law_1260 : decode cL_law 1260 = .ok (.iconst 1, 1) := by decide +kernel
theorem dL_law_1261 : decode cL_law 1261 = .ok (.iadd, 1) := by decide +kernel
theorem dL_law_1262 : decode cL_law 1262 = .ok (.iaload, 1) := by decide +kernel
theorem dL_law_1263 : decode cL_law 1263 = .ok (.aload_n 0, 1) := by decide +kernel
theorem dL_law_1264 : decode cL_law 1264 = .ok (.iload_n 3, 1) := by decide +kernel
theorem dL_law_1265 : decode cL_law 1265 = .ok (.iconst 2, 1) := by decide +kernel
theorem dL_law_1266 : decode cL_law 1266 = .ok (.iadd, 1) := by decide +kernel
theorem dL_law_1267 : decode cL_law 1267 = .ok (.iaload, 1) := by decide +kernel
theorem dL_law_1268 : decode cL_law 1268 = .ok (.aload_n 0, 1) := by decide +kernel
theorem dL_law_1269 : decode cL_law 1269 = .ok (.iload_n 3, 1) := by decide +kernel
theorem dL_law_1270 : decode cL_law 1270 = .ok (.iconst 3, 1) := by decide +kernel
theorem dL_law_1271 : decode cL_law 1271 = .ok (.iadd, 1) := by decide +kernel
theorem dL_law_1272 : decode cL_law 1272 = .ok (.iaload, 1) := by decide +kernel
theorem dL_law_1273 : decode cL_law 1273 = .ok (.aload_n 0, 1) := by decide +kernel
theorem dL_law_1274 : decode cL_law 1274 = .ok (.iload_n 3, 1) := by decide +kernel
theorem dL_law_1275 : decode cL_law 1275 = .ok (.iconst 4, 1) := by decide +kernel
theorem dL_law_1276 : decode cL_law 1276 = .ok (.iadd, 1) := by decide +kernel
theorem dL_law_1277 : decode cL_law 1277 = .ok (.iaload, 1) := by decide +kernel
theorem dL_law_1278 : decode cL_law 1278 = .ok (.aload_n 0, 1) := by decide +kernel
theorem dL_law_1279 : decode cL_law 1279 = .ok (.iload_n 3, 1) := by decide +kernel
theorem dL_law_1280 : decode cL_law 1280 = .ok (.iconst 5, 1) := by decide +kernel
theorem dL_law_1281 : decode cL_law 1281 = .ok (.iadd, 1) := by decide +kernel
theorem dL_law_1282 : decode cL_law 1282 = .ok (.iaload, 1) := by decide +kernel
theorem dL_law_1283 : decode cL_law 1283 = .ok (.aload_n 0, 1) := by decide +kernel
theorem dL_law_1284 : decode cL_law 1284 = .ok (.iload_n 3, 1) := by decide +kernel
theorem dL_law_1285 : decode cL_law 1285 = .ok (.bipush 6, 2) := by decide +kernel
theorem dL_law_1287 : decode cL_law 1287 = .ok (.iadd, 1) := by decide +kernel
theorem dL_law_1288 : decode cL_law 1288 = .ok (.iaload, 1) := by decide +kernel
theorem dL_law_1289 : decode cL_law 1289 = .ok (.invokevirtual 140, 3) := by decide +kernel
theorem dL_law_1292 : decode cL_law 1292 = .ok (.pop, 1) := by decide +kernel
theorem dL_law_1293 : decode cL_law 1293 = .ok (.goto 82, 3) := by decide +kernel
theorem dL_law_1296 : decode cL_law 1296 = .ok (.aload_n 1, 1) := by decide +kernel
theorem dL_law_1297 : decode cL_law 1297 = .ok (.aload_n 0, 1) := by decide +kernel
theorem dL_law_1298 : decode cL_law 1298 = .ok (.iload_n 3, 1) := by decide +kernel
theorem dL_law_1299 : decode cL_law 1299 = .ok (.iconst 1, 1) := by decide +kernel
theorem dL_law_1300 : decode cL_law 1300 = .ok (.iadd, 1) := by decide +kernel
theorem dL_law_1301 : decode cL_law 1301 = .ok (.iaload, 1) := by decide +kernel
theorem dL_law_1302 : decode cL_law 1302 = .ok (.aload_n 0, 1) := by decide +kernel
theorem dL_law_1303 : decode cL_law 1303 = .ok (.iload_n 3, 1) := by decide +kernel
theorem dL_law_1304 : decode cL_law 1304 = .ok (.iconst 2, 1) := by decide +kernel
theorem dL_law_1305 : decode cL_law 1305 = .ok (.iadd, 1) := by decide +kernel
theorem dL_law_1306 : decode cL_law 1306 = .ok (.iaload, 1) := by decide +kernel
theorem dL_law_1307 : decode cL_law 1307 = .ok (.aload_n 0, 1) := by decide +kernel
theorem dL_law_1308 : decode cL_law 1308 = .ok (.iload_n 3, 1) := by decide +kernel
theorem dL_law_1309 : decode cL_law 1309 = .ok (.iconst 3, 1) := by decide +kernel
theorem dL_law_1310 : decode cL_law 1310 = .ok (.iadd, 1) := by decide +kernel
theorem dL_law_1311 : decode cL_law 1311 = .ok (.iaload, 1) := by decide +kernel
theorem dL_law_1312 : decode cL_law 1312 = .ok (.invokevirtual 141, 3) := by decide +kernel
theorem dL_law_1315 : decode cL_law 1315 = .ok (.pop, 1) := by decide +kernel
theorem dL_law_1316 : decode cL_law 1316 = .ok (.aload_n 2, 1) := by decide +kernel
theorem dL_law_1317 : decode cL_law 1317 = .ok (.aload_n 0, 1) := by decide +kernel
theorem dL_law_1318 : decode cL_law 1318 = .ok (.iload_n 3, 1) := by decide +kernel
theorem dL_law_1319 : decode cL_law 1319 = .ok (.iconst 1, 1) := by decide +kernel
theorem dL_law_1320 : decode cL_law 1320 = .ok (.iadd, 1) := by decide +kernel
theorem dL_law_1321 : decode cL_law 1321 = .ok (.iaload, 1) := by decide +kernel
theorem dL_law_1322 : decode cL_law 1322 = .ok (.aload_n 0, 1) := by decide +kernel
theorem dL_law_1323 : decode cL_law 1323 = .ok (.iload_n 3, 1) := by decide +kernel
theorem dL_law_1324 : decode cL_law 1324 = .ok (.iconst 2, 1) := by decide +kernel
theorem dL_law_1325 : decode cL_law 1325 = .ok (.iadd, 1) := by decide +kernel
theorem dL_law_1326 : decode cL_law 1326 = .ok (.iaload, 1) := by decide +kernel
theorem dL_law_1327 : decode cL_law 1327 = .ok (.aload_n 0, 1) := by decide +kernel
theorem dL_law_1328 : decode cL_law 1328 = .ok (.iload_n 3, 1) := by decide +kernel
theorem dL_law_1329 : decode cL_law 1329 = .ok (.iconst 3, 1) := by decide +kernel
theorem dL_law_1330 : decode cL_law 1330 = .ok (.iadd, 1) := by decide +kernel
theorem dL_law_1331 : decode cL_law 1331 = .ok (.iaload, 1) := by decide +kernel
theorem dL_law_1332 : decode cL_law 1332 = .ok (.invokevirtual 144, 3) := by decide +kernel
theorem dL_law_1335 : decode cL_law 1335 = .ok (.pop, 1) := by decide +kernel
theorem dL_law_1336 : decode cL_law 1336 = .ok (.goto 39, 3) := by decide +kernel
theorem dL_law_1339 : decode cL_law 1339 = .ok (.aload_n 1, 1) := by decide +kernel
theorem dL_law_1340 : decode cL_law 1340 = .ok (.invokevirtual 145, 3) := by decide +kernel
theorem dL_law_1343 : decode cL_law 1343 = .ok (.pop, 1) := by decide +kernel
theorem dL_law_1344 : decode cL_law 1344 = .ok (.aload_n 2, 1) := by decide +kernel
theorem dL_law_1345 : decode cL_law 1345 = .ok (.invokevirtual 148, 3) := by decide +kernel
theorem dL_law_1348 : decode cL_law 1348 = .ok (.pop, 1) := by decide +kernel
theorem dL_law_1349 : decode cL_law 1349 = .ok (.goto 26, 3) := by decide +kernel
theorem dL_law_1352 : decode cL_law 1352 = .ok (.aload_n 1, 1) := by decide +kernel
theorem dL_law_1353 : decode cL_law 1353 = .ok (.aload_n 0, 1) := by decide +kernel
theorem dL_law_1354 : decode cL_law 1354 = .ok (.iload_n 3, 1) := by decide +kernel
theorem dL_law_1355 : decode cL_law 1355 = .ok (.iconst 1, 1) := by decide +kernel
theorem dL_law_1356 : decode cL_law 1356 = .ok (.iadd, 1) := by decide +kernel
theorem dL_law_1357 : decode cL_law 1357 = .ok (.iaload, 1) := by decide +kernel
theorem dL_law_1358 : decode cL_law 1358 = .ok (.invokevirtual 149, 3) := by decide +kernel
theorem dL_law_1361 : decode cL_law 1361 = .ok (.pop, 1) := by decide +kernel
theorem dL_law_1362 : decode cL_law 1362 = .ok (.aload_n 2, 1) := by decide +kernel
theorem dL_law_1363 : decode cL_law 1363 = .ok (.aload_n 0, 1) := by decide +kernel
theorem dL_law_1364 : decode cL_law 1364 = .ok (.iload_n 3, 1) := by decide +kernel
theorem dL_law_1365 : decode cL_law 1365 = .ok (.iconst 1, 1) := by decide +kernel
theorem dL_law_1366 : decode cL_law 1366 = .ok (.iadd, 1) := by decide +kernel
theorem dL_law_1367 : decode cL_law 1367 = .ok (.iaload, 1) := by decide +kernel
theorem dL_law_1368 : decode cL_law 1368 = .ok (.invokevirtual 152, 3) := by decide +kernel
theorem dL_law_1371 : decode cL_law 1371 = .ok (.pop, 1) := by decide +kernel
theorem dL_law_1372 : decode cL_law 1372 = .ok (.goto 3, 3) := by decide +kernel
theorem dL_law_1375 : decode cL_law 1375 = .ok (.iinc 3 8, 3) := by decide +kernel
theorem dL_law_1378 : decode cL_law 1378 = .ok (.goto (-1360), 3) := by decide +kernel
theorem dL_law_1381 : decode cL_law 1381 = .ok (.iconst 1, 1) := by decide +kernel
theorem dL_law_1382 : decode cL_law 1382 = .ok (.ireturn, 1) := by decide +kernel
