theorem dX5_rewind_5 : decode cX5_rewind 5 = .ok (.return_, 1) := by decide +kernel
theorem dX5_next_0 : decode cX5_next 0 = .ok (.aload_n 0, 1) := by decide +kernel
theorem dX5_next_1 : decode cX5_next 1 = .ok (.getfield 19, 3) := by decide +kernel
theorem dX5_next_4 : decode cX5_next 4 = .ok (.aload_n 0, 1) := by decide +kernel
theorem dX5_next_5 : decode cX5_next 5 = .ok (.getfield 15, 3) := by decide +kernel
theorem dX5_next_8 : decode cX5_next 8 = .ok (.if_icmp .ge 44, 3) := by decide +kernel
theorem dX5_next_11 : decode cX5_next 11 = .ok (.aload_n 0, 1) := by decide +kernel
theorem dX5_next_12 : decode cX5_next 12 = .ok (.getfield 9, 3) := by decide +kernel
theorem dX5_next_15 : decode cX5_next 15 = .ok (.aload_n 0, 1) := by decide +kernel
theorem dX5_next_16 : decode cX5_next 16 = .ok (.getfield 19, 3) := by decide +kernel
theorem dX5_next_19 : decode cX5_next 19 = .ok (.baload, 1) := by decide +kernel
theorem dX5_next_20 : decode cX5_next 20 = .ok (.bipush 32, 2) := by decide +kernel
theorem dX5_next_22 : decode cX5_next 22 = .ok (.if_icmp .eq 17, 3) := by decide +kernel
theorem dX5_next_25 : decode cX5_next 25 = .ok (.aload_n 0, 1) := by decide +kernel
theorem dX5_next_26 : decode cX5_next 26 = .ok (.getfield 9, 3) := by decide +kernel
theorem dX5_next_29 : decode cX5_next 29 = .ok (.aload_n 0, 1) := by decide +kernel
theorem dX5_next_30 : decode cX5_next 30 = .ok (.getfield 19, 3) := by decide +kernel
theorem dX5_next_33 : decode cX5_next 33 = .ok (.baload, 1) := by decide +kernel
theorem dX5_next_34 : decode cX5_next 34 = .ok (.bipush 10, 2) := by decide +kernel
theorem dX5_next_36 : decode cX5_next 36 = .ok (.if_icmp .ne 16, 3) := by decide +kernel
theorem dX5_next_39 : decode cX5_next 39 = .ok (.aload_n 0, 1) := by decide +kernel
theorem dX5_next_40 : decode cX5_next 40 = .ok (.dup, 1) := by decide +kernel
theorem dX5_next_41 : decode cX5_next 41 = .ok (.getfield 19, 3) := by decide +kernel
theorem dX5_next_44 : decode cX5_next 44 = .ok (.iconst 1, 1) := by decide +kernel
theorem dX5_next_45 : decode cX5_next 45 = .ok (.iadd, 1) := by decide +kernel
theorem dX5_next_46 : decode cX5_next 46 = .ok (.putfield 19, 3) := by decide +kernel
theorem dX5_next_49 : decode cX5_next 49 = .ok (.goto (-49), 3) := by decide +kernel
theorem dX5_next_52 : decode cX5_next 52 = .ok (.aload_n 0, 1) := by decide +kernel
theorem dX5_next_53 : decode cX5_next 53 = .ok (.aload_n 0, 1) := by decide +kernel
theorem dX5_next_54 : decode cX5_next 54 = .ok (.getfield 19, 3) := by decide +kernel
theorem dX5_next_57 : decode cX5_next 57 = .ok (.putfield 22, 3) := by decide +kernel
theorem dX5_next_60 : decode cX5_next 60 = .ok (.aload_n 0, 1) := by decide +kernel
theorem dX5_next_61 : decode cX5_next 61 = .ok (.getfield 19, 3) := by decide +kernel
theorem dX5_next_64 : decode cX5_next 64 = .ok (.aload_n 0, 1) := by decide +kernel
theorem dX5_next_65 : decode cX5_next 65 = .ok (.getfield 15, 3) := by decide +kernel
theorem dX5_next_68 : decode cX5_next 68 = .ok (.if_icmp .lt 11, 3) := by decide +kernel
theorem dX5_next_71 : decode cX5_next 71 = .ok (.aload_n 0, 1) := by decide +kernel
theorem dX5_next_72 : decode cX5_next 72 = .ok (.iconst 0, 1) := by decide +kernel
theorem dX5_next_73 : decode cX5_next 73 = .ok (.putfield 25, 3) := by decide +kernel
theorem dX5_next_76 : decode cX5_next 76 = .ok (.goto 80, 3) := by decide +kernel
theorem dX5_next_79 : decode cX5_next 79 = .ok (.aload_n 0, 1) := by decide +kernel
theorem dX5_next_80 : decode cX5_next 80 = .ok (.getfield 9, 3) := by decide +kernel
theorem dX5_next_83 : decode cX5_next 83 = .ok (.aload_n 0, 1) := by decide +kernel
theorem dX5_next_84 : decode cX5_next 84 = .ok (.getfield 19, 3) := by decide +kernel
theorem dX5_next_87 : decode cX5_next 87 = .ok (.baload, 1) := by decide +kernel
theorem dX5_next_88 : decode cX5_next 88 = .ok (.invokestatic 28, 3) := by decide +kernel
theorem dX5_next_91 : decode cX5_next 91 = .ok (.ifCond .eq 10, 3) := by decide +kernel
theorem dX5_next_94 : decode cX5_next 94 = .ok (.aload_n 0, 1) := by decide +kernel
theorem dX5_next_95 : decode cX5_next 95 = .ok (.invokevirtual 32, 3) := by decide +kernel
theorem dX5_next_98 : decode cX5_next 98 = .ok (.goto 58, 3) := by decide +kernel
theorem dX5_next_101 : decode cX5_next 101 = .ok (.aload_n 0, 1) := by decide +kernel
theorem dX5_next_102 : decode cX5_next 102 = .ok (.getfield 9, 3) := by decide +kernel
theorem dX5_next_105 : decode cX5_next 105 = .ok (.aload_n 0, 1) := by decide +kernel
theorem dX5_next_106 : decode cX5_next 106 = .ok (.getfield 19, 3) := by decide +kernel
theorem dX5_next_109 : decode cX5_next 109 = .ok (.baload, 1) := by decide +kernel
theorem dX5_next_110 : decode cX5_next 110 = .ok (.invokestatic 35, 3) := by decide +kernel
theorem dX5_next_113 : decode cX5_next 113 = .ok (.ifCond .eq 10, 3) := by decide +kernel
theorem dX5_next_116 : decode cX5_next 116 = .ok (.aload_n 0, 1) := by decide +kernel
theorem dX5_next_117 : decode cX5_next 117 = .ok (.invokevirtual 38, 3) := by decide +kernel
theorem dX5_next_120 : decode cX5_next 120 = .ok (.goto 36, 3) := by decide +kernel
theorem dX5_next_123 : decode cX5_next 123 = .ok (.aload_n 0, 1) := by decide +kernel
theorem dX5_next_124 : decode cX5_next 124 = .ok (.aload_n 0, 1) := by decide +kernel
theorem dX5_next_125 : decode cX5_next 125 = .ok (.getfield 9, 3) := by decide +kernel
theorem dX5_next_128 : decode cX5_next 128 = .ok (.aload_n 0, 1) := by decide +kernel
theorem dX5_next_129 : decode cX5_next 129 = .ok (.getfield 19, 3) := by decide +kernel
theorem dX5_next_132 : decode cX5_next 132 = .ok (.baload, 1) := by decide +kernel
theorem dX5_next_133 : decode cX5_next 133 = .ok (.bipush 59, 2) := by decide +kernel
theorem dX5_next_135 : decode cX5_next 135 = .ok (.if_icmp .ne 7, 3) := by decide +kernel
theorem dX5_next_138 : decode cX5_next 138 = .ok (.iconst 3, 1) := by decide +kernel
theorem dX5_next_139 : decode cX5_next 139 = .ok (.goto 4, 3) := by decide +kernel
theorem dX5_next_142 : decode cX5_next 142 = .ok (.iconst 4, 1) := by decide +kernel
theorem dX5_next_143 : decode cX5_next 143 = .ok (.putfield 25, 3) := by decide +kernel
theorem dX5_next_146 : decode cX5_next 146 = .ok (.aload_n 0, 1) := by decide +kernel
theorem dX5_next_147 : decode cX5_next 147 = .ok (.dup, 1) := by decide +kernel
theorem dX5_next_148 : decode cX5_next 148 = .ok (.getfield 19, 3) := by decide +kernel
theorem dX5_next_151 : decode cX5_next 151 = .ok (.iconst 1, 1) := by decide +kernel
theorem dX5_next_152 : decode cX5_next 152 = .ok (.iadd, 1) := by decide +kernel
theorem dX5_next_153 : decode cX5_next 153 = .ok (.putfield 19, 3) := by decide +kernel
theorem dX5_next_156 : decode cX5_next 156 = .ok (.return_, 1) := by decide +kernel
theorem dX5_readWord_0 : decode cX5_readWord 0 = .ok (.aload_n 0, 1) := by decide +kernel
theorem dX5_readWord_1 : decode cX5_readWord 1 = .ok (.lconst 0, 1) := by decide +kernel
theorem dX5_readWord_2 : decode cX5_readWord 2 = .ok (.putfield 41, 3) := by decide +kernel
theorem dX5_readWord_5 : decode cX5_readWord 5 = .ok (.aload_n 0, 1) := by decide +kernel
theorem dX5_readWord_6 : decode cX5_readWord 6 = .ok (.getfield 19, 3) := by decide +kernel
theorem dX5_readWord_9 : decode cX5_readWord 9 = .ok (.aload_n 0, 1) := by decide +kernel
theorem dX5_readWord_10 : decode cX5_readWord 10 = .ok (.getfield 15, 3) := by decide +kernel
theorem dX5_readWord_13 : decode cX5_readWord 13 = .ok (.if_icmp .ge 53, 3) := by decide +kernel
theorem dX5_readWord_16 : decode cX5_readWord 16 = .ok (.aload_n 0, 1) := by decide +kernel
theorem dX5_readWord_17 : decode cX5_readWord 17 = .ok (.getfield 9, 3) := by decide +kernel
theorem dX5_readWord_20 : decode cX5_readWord 20 = .ok (.aload_n 0, 1) := by decide +kernel
theorem dX5_readWord_21 : decode cX5_readWord 21 = .ok (.getfield 19, 3) := by decide +kernel
theorem dX5_readWord_24 : decode cX5_readWord 24 = .ok (.baload, 1) := by decide +kernel
theorem dX5_readWord_25 : decode cX5_readWord 25 = .ok (.invokestatic 28, 3) := by decide +kernel
theorem dX5_readWord_28 : decode cX5_readWord 28 = .ok (.ifCond .eq 38, 3) := by decide +kernel
theorem dX5_readWord_31 : decode cX5_readWord 31 = .ok (.aload_n 0, 1) := by decide +kernel
theorem dX5_readWord_32 : decode cX5_readWord 32 = .ok (.aload_n 0, 1) := by decide +kernel
theorem dX5_readWord_33 : decode cX5_readWord 33 = .ok (.getfield 41, 3) := by decide +kernel
theorem dX5_readWord_36 : decode cX5_readWord 36 = .ok (.bipush 8, 2) := by decide +kernel
theorem dX5_readWord_38 : decode cX5_readWord 38 = .ok (.lshl, 1) := by decide +kernel
theorem dX5_readWord_39 : decode cX5_readWord 39 = .ok (.aload_n 0, 1) := by decide +kernel
theorem dX5_readWord_40 : decode cX5_readWord 40 = .ok (.getfield 9, 3) := by decide +kernel
theorem dX5_readWord_43 : decode cX5_readWord 43 = .ok (.aload_n 0, 1) := by decide +kernel
theorem dX5_readWord_44 : decode cX5_readWord 44 = .ok (.getfield 19, 3) := by decide +kernel
theorem dX5_readWord_47 : decode cX5_readWord 47 = .ok (.baload, 1) := by decide +kernel
theorem dX5_readWord_48 : decode cX5_readWord 48 = .ok (.i2l, 1) := by decide +kernel
theorem dX5_readWord_49 : decode cX5_readWord 49 = .ok (.lor, 1) := by decide +kernel
theorem dX5_readWord_50 : decode cX5_readWord 50 = .ok (.putfield 41, 3) := by decide +kernel
theorem dX5_readWord_53 : decode cX5_readWord 53 = .ok (.aload_n 0, 1) := by decide +kernel
theorem dX5_readWord_54 : decode cX5_readWord 54 = .ok (.dup, 1) := by decide +kernel
theorem dX5_readWord_55 : decode cX5_readWord 55 = .ok (.getfield 19, 3) := by decide +kernel
theorem dX5_readWord_58 : decode cX5_readWord 58 = .ok (.iconst 1, 1) := by decide +kernel
theorem dX5_readWord_59 : decode cX5_readWord 59 = .ok (.iadd, 1) := by decide +kernel
theorem dX5_readWord_60 : decode cX5_readWord 60 = .ok (.putfield 19, 3) := by decide +kernel
theorem dX5_readWord_63 : decode cX5_readWord 63 = .ok (.goto (-58), 3) := by decide +kernel
theorem dX5_readWord_66 : decode cX5_readWord 66 = .ok (.aload_n 0, 1) := by decide +kernel
theorem dX5_readWord_67 : decode cX5_readWord 67 = .ok (.aload_n 0, 1) := by decide +kernel
theorem dX5_readWord_68 : decode cX5_readWord 68 = .ok (.getfield 19, 3) := by decide +kernel
theorem dX5_readWord_71 : decode cX5_readWord 71 = .ok (.aload_n 0, 1) := by decide +kernel
theorem dX5_readWord_72 : decode cX5_readWord 72 = .ok (.getfield 22, 3) := by decide +kernel
theorem dX5_readWord_75 : decode cX5_readWord 75 = .ok (.isub, 1) := by decide +kernel
theorem dX5_readWord_76 : decode cX5_readWord 76 = .ok (.bipush 8, 2) := by decide +kernel
theorem dX5_readWord_78 : decode cX5_readWord 78 = .ok (.if_icmp .le 7, 3) := by decide +kernel
theorem dX5_readWord_81 : decode cX5_readWord 81 = .ok (.iconst 4, 1) := by decide +kernel
theorem dX5_readWord_82 : decode cX5_readWord 82 = .ok (.goto 4, 3) := by decide +kernel
theorem dX5_readWord_85 : decode cX5_readWord 85 = .ok (.iconst 1, 1) := by decide +kernel
theorem dX5_readWord_86 : decode cX5_readWord 86 = .ok (.putfield 25, 3) := by decide +kernel
theorem dX5_readWord_89 : decode cX5_readWord 89 = .ok (.return_, 1) := by decide +kernel
theorem dX5_readNumber_0 : decode cX5_readNumber 0 = .ok (.aload_n 0, 1) := by decide +kernel
theorem dX5_readNumber_1 : decode cX5_readNumber 1 = .ok (.iconst 0, 1) := by decide +kernel
theorem dX5_readNumber_2 : decode cX5_readNumber 2 = .ok (.putfield 45, 3) := by decide +kernel
theorem dX5_readNumber_5 : decode cX5_readNumber 5 = .ok (.aload_n 0, 1) := by decide +kernel
theorem dX5_readNumber_6 : decode cX5_readNumber 6 = .ok (.getfield 19, 3) := by decide +kernel
theorem dX5_readNumber_9 : decode cX5_readNumber 9 = .ok (.aload_n 0, 1) := by decide +kernel
theorem dX5_readNumber_10 : decode cX5_readNumber 10 = .ok (.getfield 15, 3) := by decide +kernel
theorem dX5_readNumber_13 : decode cX5_readNumber 13 = .ok (.if_icmp .ge 55, 3) := by decide +kernel
theorem dX5_readNumber_16 : decode cX5_readNumber 16 = .ok (.aload_n 0, 1) := by decide +kernel
theorem dX5_readNumber_17 : decode cX5_readNumber 17 = .ok (.getfield 9, 3) := by decide +kernel
theorem dX5_readNumber_20 : decode cX5_readNumber 20 = .ok (.aload_n 0, 1) := by decide +kernel
theorem dX5_readNumber_21 : decode cX5_readNumber 21 = .ok (.getfield 19, 3) := by decide +kernel
theorem dX5_readNumber_24 : decode cX5_readNumber 24 = .ok (.baload, 1) := by decide +kernel
theorem dX5_readNumber_25 : decode cX5_readNumber 25 = .ok (.invokestatic 35, 3) := by decide +kernel
theorem dX5_readNumber_28 : decode cX5_readNumber 28 = .ok (.ifCond .eq 40, 3) := by decide +kernel
theorem dX5_readNumber_31 : decode cX5_readNumber 31 = .ok (.aload_n 0, 1) := by decide +kernel
theorem dX5_readNumber_32 : decode cX5_readNumber 32 = .ok (.aload_n 0, 1) := by decide +kernel
theorem dX5_readNumber_33 : decode cX5_readNumber 33 = .ok (.getfield 45, 3) := by decide +kernel
theorem dX5_readNumber_36 : decode cX5_readNumber 36 = .ok (.bipush 10, 2) := by decide +kernel
theorem dX5_readNumber_38 : decode cX5_readNumber 38 = .ok (.imul, 1) := by decide +kernel
theorem dX5_readNumber_39 : decode cX5_readNumber 39 = .ok (.aload_n 0, 1) := by decide +kernel
theorem dX5_readNumber_40 : decode cX5_readNumber 40 = .ok (.getfield 9, 3) := by decide +kernel
theorem dX5_readNumber_43 : decode cX5_readNumber 43 = .ok (.aload_n 0, 1) := by decide +kernel
theorem dX5_readNumber_44 : decode cX5_readNumber 44 = .ok (.getfield 19, 3) := by decide +kernel
theorem dX5_readNumber_47 : decode cX5_readNumber 47 = .ok (.baload, 1) := by decide +kernel
theorem dX5_readNumber_48 : decode cX5_readNumber 48 = .ok (.iadd, 1) := by decide +kernel
theorem dX5_readNumber_49 : decode cX5_readNumber 49 = .ok (.bipush 48, 2) := by decide +kernel
theorem dX5_readNumber_51 : decode cX5_readNumber 51 = .ok (.isub, 1) := by decide +kernel
theorem dX5_readNumber_52 : decode cX5_readNumber 52 = .ok (.putfield 45, 3) := by decide +kernel
theorem dX5_readNumber_55 : decode cX5_readNumber 55 = .ok (.aload_n 0, 1) := by decide +kernel
theorem dX5_readNumber_56 : decode cX5_readNumber 56 = .ok (.dup, 1) := by decide +kernel
theorem dX5_readNumber_57 : decode cX5_readNumber 57 = .ok (.getfield 19, 3) := by decide +kernel
theorem dX5_readNumber_60 : decode cX5_readNumber 60 = .ok (.iconst 1, 1) := by decide +kernel
theorem dX5_readNumber_61 : decode cX5_readNumber 61 = .ok (.iadd, 1) := by decide +kernel
theorem dX5_readNumber_62 : decode cX5_readNumber 62 = .ok (.putfield 19, 3) := by decide +kernel
theorem dX5_readNumber_65 : decode cX5_readNumber 65 = .ok (.goto (-60), 3) := by decide +kernel
theorem dX5_readNumber_68 : decode cX5_readNumber 68 = .ok (.aload_n 0, 1) := by decide +kernel
theorem dX5_readNumber_69 : decode cX5_readNumber 69 = .ok (.aload_n 0, 1) := by decide +kernel
theorem dX5_readNumber_70 : decode cX5_readNumber 70 = .ok (.getfield 19, 3) := by decide +kernel
theorem dX5_readNumber_73 : decode cX5_readNumber 73 = .ok (.aload_n 0, 1) := by decide +kernel
theorem dX5_readNumber_74 : decode cX5_readNumber 74 = .ok (.getfield 22, 3) := by decide +kernel
theorem dX5_readNumber_77 : decode cX5_readNumber 77 = .ok (.isub, 1) := by decide +kernel
theorem dX5_readNumber_78 : decode cX5_readNumber 78 = .ok (.iconst 4, 1) := by decide +kernel
theorem dX5_readNumber_79 : decode cX5_readNumber 79 = .ok (.if_icmp .le 7, 3) := by decide +kernel
theorem dX5_readNumber_82 : decode cX5_readNumber 82 = .ok (.iconst 4, 1) := by decide +kernel
theorem dX5_readNumber_83 : decode cX5_readNumber 83 = .ok (.goto 4, 3) := by decide +kernel
theorem dX5_readNumber_86 : decode cX5_readNumber 86 = .ok (.iconst 2, 1) := by decide +kernel
theorem dX5_readNumber_87 : decode cX5_readNumber 87 = .ok (.putfield 25, 3) := by decide +kernel
theorem dX5_readNumber_90 : decode cX5_readNumber 90 = .ok (.return_, 1) := by decide +kernel
theorem dX5_isLetter_0 : decode cX5_isLetter 0 = .ok (.iload_n 0, 1) := by decide +kernel
theorem dX5_isLetter_1 : decode cX5_isLetter 1 = .ok (.bipush 97, 2) := by decide +kernel
theorem dX5_isLetter_3 : decode cX5_isLetter 3 = .ok (.if_icmp .lt 13, 3) := by decide +kernel
theorem dX5_isLetter_6 : decode cX5_isLetter 6 = .ok (.iload_n 0, 1) := by decide +kernel
theorem dX5_isLetter_7 : decode cX5_isLetter 7 = .ok (.bipush 122, 2) := by decide +kernel
theorem dX5_isLetter_9 : decode cX5_isLetter 9 = .ok (.if_icmp .gt 7, 3) := by decide +kernel
theorem dX5_isLetter_12 : decode cX5_isLetter 12 = .ok (.iconst 1, 1) := by decide +kernel
theorem dX5_isLetter_13 : decode cX5_isLetter 13 = .ok (.goto 4, 3) := by decide +kernel
theorem dX5_isLetter_16 : decode cX5_isLetter 16 = .ok (.iconst 0, 1) := by decide +kernel
theorem dX5_isLetter_17 : decode cX5_isLetter 17 = .ok (.ireturn, 1) := by decide +kernel
theorem dX5_isDigit_0 : decode cX5_isDigit 0 = .ok (.iload_n 0, 1) := by decide +kernel
theorem dX5_isDigit_1 : decode cX5_isDigit 1 = .ok (.bipush 48, 2) := by decide +kernel
theorem dX5_isDigit_3 : decode cX5_isDigit 3 = .ok (.if_icmp .lt 13, 3) := by decide +kernel
theorem dX5_isDigit_6 : decode cX5_isDigit 6 = .ok (.iload_n 0, 1) := by decide +kernel
theorem dX5_isDigit_7 : decode cX5_isDigit 7 = .ok (.bipush 57, 2) := by decide +kernel
theorem dX5_isDigit_9 : decode cX5_isDigit 9 = .ok (.if_icmp .gt 7, 3) := by decide +kernel
theorem dX5_isDigit_12 : decode cX5_isDigit 12 = .ok (.iconst 1, 1) := by decide +kernel
theorem dX5_isDigit_13 : decode cX5_isDigit 13 = .ok (.goto 4, 3) := by decide +kernel
theorem dX5_isDigit_16 : decode cX5_isDigit 16 = .ok (.iconst 0, 1) := by decide +kernel
theorem dX5_isDigit_17 : decode cX5_isDigit 17 = .ok (.ireturn, 1) := by decide +kernel
theorem dX6_init_0 : decode cX6_init 0 = .ok (.aload_n 0, 1) := by decide +kernel
theorem dX6_init_1 : decode cX6_init 1 = .ok (.invokespecial 3, 3) := by decide +kernel
theorem dX6_init_4 : decode cX6_init 4 = .ok (.aload_n 0, 1) := by decide +kernel
theorem dX6_init_5 : decode cX6_init 5 = .ok (.iconst (-1), 1) := by decide +kernel
theorem dX6_init_6 : decode cX6_init 6 = .ok (.putfield 9, 3) := by decide +kernel
theorem dX6_init_9 : decode cX6_init 9 = .ok (.return_, 1) := by decide +kernel
theorem dX6_load_0 : decode cX6_load 0 = .ok (.aload_n 1, 1) := by decide +kernel
theorem dX6_load_1 : decode cX6_load 1 = .ok (.getfield 15, 3) := by decide +kernel
theorem dX6_load_4 : decode cX6_load 4 = .ok (.astore 4, 2) := by decide +kernel
theorem dX6_load_6 : decode cX6_load 6 = .ok (.iload_n 2, 1) := by decide +kernel
theorem dX6_load_7 : decode cX6_load 7 = .ok (.bipush 7, 2) := by decide +kernel
theorem dX6_load_9 : decode cX6_load 9 = .ok (.imul, 1) := by decide +kernel
theorem dX6_load_10 : decode cX6_load 10 = .ok (.iload_n 3, 1) := by decide +kernel
theorem dX6_load_11 : decode cX6_load 11 = .ok (.iadd, 1) := by decide +kernel
theorem dX6_load_12 : decode cX6_load 12 = .ok (.istore 5, 2) := by decide +kernel
theorem dX6_load_14 : decode cX6_load 14 = .ok (.aload 4, 2) := by decide +kernel
theorem dX6_load_16 : decode cX6_load 16 = .ok (.getfield 21, 3) := by decide +kernel
theorem dX6_load_19 : decode cX6_load 19 = .ok (.istore 6, 2) := by decide +kernel
theorem dX6_load_21 : decode cX6_load 21 = .ok (.aload 4, 2) := by decide +kernel
theorem dX6_load_23 : decode cX6_load 23 = .ok (.getfield 26, 3) := by decide +kernel
theorem dX6_load_26 : decode cX6_load 26 = .ok (.iload_n 2, 1) := by decide +kernel
theorem dX6_load_27 : decode cX6_load 27 = .ok (.iaload, 1) := by decide +kernel
theorem dX6_load_28 : decode cX6_load 28 = .ok (.iload_n 3, 1) := by decide +kernel
theorem dX6_load_29 : decode cX6_load 29 = .ok (.ishr, 1) := by decide +kernel
theorem dX6_load_30 : decode cX6_load 30 = .ok (.iconst 1, 1) := by decide +kernel
theorem dX6_load_31 : decode cX6_load 31 = .ok (.iand, 1) := by decide +kernel
theorem dX6_load_32 : decode cX6_load 32 = .ok (.ifCond .eq 7, 3) := by decide +kernel
theorem dX6_load_35 : decode cX6_load 35 = .ok (.iconst 1, 1) := by decide +kernel
theorem dX6_load_36 : decode cX6_load 36 = .ok (.goto 4, 3) := by decide +kernel
theorem dX6_load_39 : decode cX6_load 39 = .ok (.iconst 0, 1) := by decide +kernel
theorem dX6_load_40 : decode cX6_load 40 = .ok (.istore 7, 2) := by decide +kernel
theorem dX6_load_42 : decode cX6_load 42 = .ok (.aload_n 0, 1) := by decide +kernel
theorem dX6_load_43 : decode cX6_load 43 = .ok (.aload 4, 2) := by decide +kernel
theorem dX6_load_45 : decode cX6_load 45 = .ok (.getfield 30, 3) := by decide +kernel
theorem dX6_load_48 : decode cX6_load 48 = .ok (.iload 5, 2) := by decide +kernel
theorem dX6_load_50 : decode cX6_load 50 = .ok (.iaload, 1) := by decide +kernel
theorem dX6_load_51 : decode cX6_load 51 = .ok (.putfield 9, 3) := by decide +kernel
theorem dX6_load_54 : decode cX6_load 54 = .ok (.aload_n 0, 1) := by decide +kernel
theorem dX6_load_55 : decode cX6_load 55 = .ok (.aload 4, 2) := by decide +kernel
theorem dX6_load_57 : decode cX6_load 57 = .ok (.getfield 33, 3) := by decide +kernel
theorem dX6_load_60 : decode cX6_load 60 = .ok (.iload 5, 2) := by decide +kernel
theorem dX6_load_62 : decode cX6_load 62 = .ok (.iaload, 1) := by decide +kernel
theorem dX6_load_63 : decode cX6_load 63 = .ok (.putfield 36, 3) := by decide +kernel
theorem dX6_load_66 : decode cX6_load 66 = .ok (.aload_n 0, 1) := by decide +kernel
theorem dX6_load_67 : decode cX6_load 67 = .ok (.aload 4, 2) := by decide +kernel
theorem dX6_load_69 : decode cX6_load 69 = .ok (.getfield 39, 3) := by decide +kernel
theorem dX6_load_72 : decode cX6_load 72 = .ok (.iload 5, 2) := by decide +kernel
theorem dX6_load_74 : decode cX6_load 74 = .ok (.iaload, 1) := by decide +kernel
theorem dX6_load_75 : decode cX6_load 75 = .ok (.putfield 42, 3) := by decide +kernel
theorem dX6_load_78 : decode cX6_load 78 = .ok (.aload_n 0, 1) := by decide +kernel
theorem dX6_load_79 : decode cX6_load 79 = .ok (.aload_n 0, 1) := by decide +kernel
theorem dX6_load_80 : decode cX6_load 80 = .ok (.getfield 9, 3) := by decide +kernel
theorem dX6_load_83 : decode cX6_load 83 = .ok (.iconst (-1), 1) := by decide +kernel
theorem dX6_load_84 : decode cX6_load 84 = .ok (.if_icmp .ne 7, 3) := by decide +kernel
theorem dX6_load_87 : decode cX6_load 87 = .ok (.iconst 0, 1) := by decide +kernel
theorem dX6_load_88 : decode cX6_load 88 = .ok (.goto 17, 3) := by decide +kernel
theorem dX6_load_91 : decode cX6_load 91 = .ok (.aload_n 1, 1) := by decide +kernel
theorem dX6_load_92 : decode cX6_load 92 = .ok (.getfield 45, 3) := by decide +kernel
theorem dX6_load_95 : decode cX6_load 95 = .ok (.aload_n 0, 1) := by decide +kernel
theorem dX6_load_96 : decode cX6_load 96 = .ok (.getfield 9, 3) := by decide +kernel
theorem dX6_load_99 : decode cX6_load 99 = .ok (.bipush 7, 2) := by decide +kernel
theorem dX6_load_101 : decode cX6_load 101 = .ok (.imul, 1) := by decide +kernel
theorem dX6_load_102 : decode cX6_load 102 = .ok (.iload_n 3, 1) := by decide +kernel
theorem dX6_load_103 : decode cX6_load 103 = .ok (.iadd, 1) := by decide +kernel
theorem dX6_load_104 : decode cX6_load 104 = .ok (.iaload, 1) := by decide +kernel
theorem dX6_load_105 : decode cX6_load 105 = .ok (.putfield 48, 3) := by decide +kernel
theorem dX6_load_108 : decode cX6_load 108 = .ok (.aload_n 0, 1) := by decide +kernel
theorem dX6_load_109 : decode cX6_load 109 = .ok (.iload 6, 2) := by decide +kernel
theorem dX6_load_111 : decode cX6_load 111 = .ok (.iconst (-1), 1) := by decide +kernel
theorem dX6_load_112 : decode cX6_load 112 = .ok (.if_icmp .ne 7, 3) := by decide +kernel
theorem dX6_load_115 : decode cX6_load 115 = .ok (.iconst 0, 1) := by decide +kernel
theorem dX6_load_116 : decode cX6_load 116 = .ok (.goto 15, 3) := by decide +kernel
theorem dX6_load_119 : decode cX6_load 119 = .ok (.aload_n 1, 1) := by decide +kernel
theorem dX6_load_120 : decode cX6_load 120 = .ok (.getfield 45, 3) := by decide +kernel
theorem dX6_load_123 : decode cX6_load 123 = .ok (.iload 6, 2) := by decide +kernel
theorem dX6_load_125 : decode cX6_load 125 = .ok (.bipush 7, 2) := by decide +kernel
theorem dX6_load_127 : decode cX6_load 127 = .ok (.imul, 1) := by decide +kernel
theorem dX6_load_128 : decode cX6_load 128 = .ok (.iload_n 3, 1) := by decide +kernel
theorem dX6_load_129 : decode cX6_load 129 = .ok (.iadd, 1) := by decide +kernel
theorem dX6_load_130 : decode cX6_load 130 = .ok (.iaload, 1) := by decide +kernel
theorem dX6_load_131 : decode cX6_load 131 = .ok (.putfield 51, 3) := by decide +kernel
theorem dX6_load_134 : decode cX6_load 134 = .ok (.aload_n 0, 1) := by decide +kernel
theorem dX6_load_135 : decode cX6_load 135 = .ok (.iload 7, 2) := by decide +kernel
theorem dX6_load_137 : decode cX6_load 137 = .ok (.ifCond .eq 7, 3) := by decide +kernel
theorem dX6_load_140 : decode cX6_load 140 = .ok (.iconst 0, 1) := by decide +kernel
theorem dX6_load_141 : decode cX6_load 141 = .ok (.goto 7, 3) := by decide +kernel
theorem dX6_load_144 : decode cX6_load 144 = .ok (.aload_n 0, 1) := by decide +kernel
theorem dX6_load_145 : decode cX6_load 145 = .ok (.getfield 36, 3) := by decide +kernel
theorem dX6_load_148 : decode cX6_load 148 = .ok (.putfield 54, 3) := by decide +kernel
theorem dX6_load_151 : decode cX6_load 151 = .ok (.aload_n 0, 1) := by decide +kernel
theorem dX6_load_152 : decode cX6_load 152 = .ok (.iload 7, 2) := by decide +kernel
theorem dX6_load_154 : decode cX6_load 154 = .ok (.ifCond .ne 9, 3) := by decide +kernel
theorem dX6_load_157 : decode cX6_load 157 = .ok (.iload 6, 2) := by decide +kernel
theorem dX6_load_159 : decode cX6_load 159 = .ok (.iconst (-1), 1) := by decide +kernel
theorem dX6_load_160 : decode cX6_load 160 = .ok (.if_icmp .ne 7, 3) := by decide +kernel
theorem dX6_load_163 : decode cX6_load 163 = .ok (.iconst 0, 1) := by decide +kernel
theorem dX6_load_164 : decode cX6_load 164 = .ok (.goto 4, 3) := by decide +kernel
theorem dX6_load_167 : decode cX6_load 167 = .ok (.iconst 2, 1) := by decide +kernel
theorem dX6_load_168 : decode cX6_load 168 = .ok (.putfield 57, 3) := by decide +kernel
theorem dX6_load_171 : decode cX6_load 171 = .ok (.aload_n 0, 1) := by decide +kernel
theorem dX6_load_172 : decode cX6_load 172 = .ok (.aload_n 0, 1) := by decide +kernel
theorem dX6_load_173 : decode cX6_load 173 = .ok (.getfield 9, 3) := by decide +kernel
theorem dX6_load_176 : decode cX6_load 176 = .ok (.iconst (-1), 1) := by decide +kernel
theorem dX6_load_177 : decode cX6_load 177 = .ok (.if_icmp .eq 16, 3) := by decide +kernel
theorem dX6_load_180 : decode cX6_load 180 = .ok (.aload_n 0, 1) := by decide +kernel
theorem dX6_load_181 : decode cX6_load 181 = .ok (.getfield 9, 3) := by decide +kernel
theorem dX6_load_184 : decode cX6_load 184 = .ok (.iload 6, 2) := by decide +kernel
theorem dX6_load_186 : decode cX6_load 186 = .ok (.if_icmp .ne 7, 3) := by decide +kernel
theorem dX6_load_189 : decode cX6_load 189 = .ok (.iconst 1, 1) := by decide +kernel
theorem dX6_load_190 : decode cX6_load 190 = .ok (.goto 4, 3) := by decide +kernel
theorem dX6_load_193 : decode cX6_load 193 = .ok (.iconst 0, 1) := by decide +kernel
theorem dX6_load_194 : decode cX6_load 194 = .ok (.putfield 60, 3) := by decide +kernel
theorem dX6_load_197 : decode cX6_load 197 = .ok (.aload_n 0, 1) := by decide +kernel
theorem dX6_load_198 : decode cX6_load 198 = .ok (.aload_n 1, 1) := by decide +kernel
theorem dX6_load_199 : decode cX6_load 199 = .ok (.getfield 64, 3) := by decide +kernel
theorem dX6_load_202 : decode cX6_load 202 = .ok (.iload_n 3, 1) := by decide +kernel
theorem dX6_load_203 : decode cX6_load 203 = .ok (.iaload, 1) := by decide +kernel
theorem dX6_load_204 : decode cX6_load 204 = .ok (.ifCond .le 7, 3) := by decide +kernel
theorem dX6_load_207 : decode cX6_load 207 = .ok (.iconst 1, 1) := by decide +kernel
theorem dX6_load_208 : decode cX6_load 208 = .ok (.goto 4, 3) := by decide +kernel
theorem dX6_load_211 : decode cX6_load 211 = .ok (.iconst 0, 1) := by decide +kernel
theorem dX6_load_212 : decode cX6_load 212 = .ok (.putfield 67, 3) := by decide +kernel
theorem dX6_load_215 : decode cX6_load 215 = .ok (.return_, 1) := by decide +kernel
theorem dX6_mostFromStore_0 : decode cX6_mostFromStore 0 = .ok (.aload_n 0, 1) := by decide +kernel
theorem dX6_mostFromStore_1 : decode cX6_mostFromStore 1 = .ok (.getfield 60, 3) := by decide +kernel
theorem dX6_mostFromStore_4 : decode cX6_mostFromStore 4 = .ok (.ifCond .ne 7, 3) := by decide +kernel
theorem dX6_mostFromStore_7 : decode cX6_mostFromStore 7 = .ok (.iconst 0, 1) := by decide +kernel
theorem dX6_mostFromStore_8 : decode cX6_mostFromStore 8 = .ok (.goto 19, 3) := by decide +kernel
theorem dX6_mostFromStore_11 : decode cX6_mostFromStore 11 = .ok (.iload_n 1, 1) := by decide +kernel
theorem dX6_mostFromStore_12 : decode cX6_mostFromStore 12 = .ok (.aload_n 0, 1) := by decide +kernel
theorem dX6_mostFromStore_13 : decode cX6_mostFromStore 13 = .ok (.getfield 36, 3) := by decide +kernel
theorem dX6_mostFromStore_16 : decode cX6_mostFromStore 16 = .ok (.if_icmp .ge 7, 3) := by decide +kernel
theorem dX6_mostFromStore_19 : decode cX6_mostFromStore 19 = .ok (.iload_n 1, 1) := by decide +kernel
theorem dX6_mostFromStore_20 : decode cX6_mostFromStore 20 = .ok (.goto 7, 3) := by decide +kernel
theorem dX6_mostFromStore_23 : decode cX6_mostFromStore 23 = .ok (.aload_n 0, 1) := by decide +kernel
theorem dX6_mostFromStore_24 : decode cX6_mostFromStore 24 = .ok (.getfield 36, 3) := by decide +kernel
theorem dX6_mostFromStore_27 : decode cX6_mostFromStore 27 = .ok (.ireturn, 1) := by decide +kernel
theorem dX6_priceOf_0 : decode cX6_priceOf 0 = .ok (.iload_n 1, 1) := by decide +kernel
theorem dX6_priceOf_1 : decode cX6_priceOf 1 = .ok (.aload_n 0, 1) := by decide +kernel
theorem dX6_priceOf_2 : decode cX6_priceOf 2 = .ok (.getfield 48, 3) := by decide +kernel
theorem dX6_priceOf_5 : decode cX6_priceOf 5 = .ok (.imul, 1) := by decide +kernel
theorem dX6_priceOf_6 : decode cX6_priceOf 6 = .ok (.iload_n 2, 1) := by decide +kernel
theorem dX6_priceOf_7 : decode cX6_priceOf 7 = .ok (.aload_n 0, 1) := by decide +kernel
theorem dX6_priceOf_8 : decode cX6_priceOf 8 = .ok (.getfield 51, 3) := by decide +kernel
theorem dX6_priceOf_11 : decode cX6_priceOf 11 = .ok (.imul, 1) := by decide +kernel
theorem dX6_priceOf_12 : decode cX6_priceOf 12 = .ok (.iadd, 1) := by decide +kernel
theorem dX6_priceOf_13 : decode cX6_priceOf 13 = .ok (.ireturn, 1) := by decide +kernel
theorem dX6_allow_0 : decode cX6_allow 0 = .ok (.iload_n 3, 1) := by decide +kernel
theorem dX6_allow_1 : decode cX6_allow 1 = .ok (.iconst 3, 1) := by decide +kernel
theorem dX6_allow_2 : decode cX6_allow 2 = .ok (.iand, 1) := by decide +kernel
theorem dX6_allow_3 : decode cX6_allow 3 = .ok (.istore 4, 2) := by decide +kernel
theorem dX6_allow_5 : decode cX6_allow 5 = .ok (.iload_n 3, 1) := by decide +kernel
theorem dX6_allow_6 : decode cX6_allow 6 = .ok (.iconst 2, 1) := by decide +kernel
theorem dX6_allow_7 : decode cX6_allow 7 = .ok (.ishr, 1) := by decide +kernel
theorem dX6_allow_8 : decode cX6_allow 8 = .ok (.iconst 3, 1) := by decide +kernel
theorem dX6_allow_9 : decode cX6_allow 9 = .ok (.iand, 1) := by decide +kernel
theorem dX6_allow_10 : decode cX6_allow 10 = .ok (.istore 5, 2) := by decide +kernel
theorem dX6_allow_12 : decode cX6_allow 12 = .ok (.iload_n 3, 1) := by decide +kernel
theorem dX6_allow_13 : decode cX6_allow 13 = .ok (.iconst 4, 1) := by decide +kernel
theorem dX6_allow_14 : decode cX6_allow 14 = .ok (.ishr, 1) := by decide +kernel
theorem dX6_allow_15 : decode cX6_allow 15 = .ok (.istore 6, 2) := by decide +kernel
theorem dX6_allow_17 : decode cX6_allow 17 = .ok (.iload 4, 2) := by decide +kernel
theorem dX6_allow_19 : decode cX6_allow 19 = .ok (.aload_n 0, 1) := by decide +kernel
theorem dX6_allow_20 : decode cX6_allow 20 = .ok (.getfield 54, 3) := by decide +kernel
theorem dX6_allow_23 : decode cX6_allow 23 = .ok (.if_icmp .gt 61, 3) := by decide +kernel
theorem dX6_allow_26 : decode cX6_allow 26 = .ok (.iload 5, 2) := by decide +kernel
theorem dX6_allow_28 : decode cX6_allow 28 = .ok (.aload_n 0, 1) := by decide +kernel
theorem dX6_allow_29 : decode cX6_allow 29 = .ok (.iload_n 2, 1) := by decide +kernel
theorem dX6_allow_30 : decode cX6_allow 30 = .ok (.invokevirtual 70, 3) := by decide +kernel
theorem dX6_allow_33 : decode cX6_allow 33 = .ok (.if_icmp .gt 51, 3) := by decide +kernel
theorem dX6_allow_36 : decode cX6_allow 36 = .ok (.iload 4, 2) := by decide +kernel
theorem dX6_allow_38 : decode cX6_allow 38 = .ok (.iload 5, 2) := by decide +kernel
theorem dX6_allow_40 : decode cX6_allow 40 = .ok (.iadd, 1) := by decide +kernel
theorem dX6_allow_41 : decode cX6_allow 41 = .ok (.aload_n 0, 1) := by decide +kernel
theorem dX6_allow_42 : decode cX6_allow 42 = .ok (.getfield 36, 3) := by decide +kernel
theorem dX6_allow_45 : decode cX6_allow 45 = .ok (.if_icmp .gt 39, 3) := by decide +kernel
theorem dX6_allow_48 : decode cX6_allow 48 = .ok (.iload 6, 2) := by decide +kernel
theorem dX6_allow_50 : decode cX6_allow 50 = .ok (.aload_n 0, 1) := by decide +kernel
theorem dX6_allow_51 : decode cX6_allow 51 = .ok (.getfield 57, 3) := by decide +kernel
theorem dX6_allow_54 : decode cX6_allow 54 = .ok (.if_icmp .gt 30, 3) := by decide +kernel
theorem dX6_allow_57 : decode cX6_allow 57 = .ok (.iload_n 2, 1) := by decide +kernel
theorem dX6_allow_58 : decode cX6_allow 58 = .ok (.iload 5, 2) := by decide +kernel
theorem dX6_allow_60 : decode cX6_allow 60 = .ok (.isub, 1) := by decide +kernel
theorem dX6_allow_61 : decode cX6_allow 61 = .ok (.iload 6, 2) := by decide +kernel
theorem dX6_allow_63 : decode cX6_allow 63 = .ok (.iadd, 1) := by decide +kernel
theorem dX6_allow_64 : decode cX6_allow 64 = .ok (.iconst 5, 1) := by decide +kernel
theorem dX6_allow_65 : decode cX6_allow 65 = .ok (.if_icmp .gt 19, 3) := by decide +kernel
theorem dX6_allow_68 : decode cX6_allow 68 = .ok (.aload_n 0, 1) := by decide +kernel
theorem dX6_allow_69 : decode cX6_allow 69 = .ok (.iload 4, 2) := by decide +kernel
theorem dX6_allow_71 : decode cX6_allow 71 = .ok (.iload 6, 2) := by decide +kernel
theorem dX6_allow_73 : decode cX6_allow 73 = .ok (.invokevirtual 74, 3) := by decide +kernel
theorem dX6_allow_76 : decode cX6_allow 76 = .ok (.iload_n 1, 1) := by decide +kernel
theorem dX6_allow_77 : decode cX6_allow 77 = .ok (.if_icmp .gt 7, 3) := by decide +kernel
theorem dX6_allow_80 : decode cX6_allow 80 = .ok (.iconst 1, 1) := by decide +kernel
theorem dX6_allow_81 : decode cX6_allow 81 = .ok (.goto 4, 3) := by decide +kernel
theorem dX6_allow_84 : decode cX6_allow 84 = .ok (.iconst 0, 1) := by decide +kernel
theorem dX6_allow_85 : decode cX6_allow 85 = .ok (.ireturn, 1) := by decide +kernel
theorem dX6_habit_0 : decode cX6_habit 0 = .ok (.iload_n 1, 1) := by decide +kernel
theorem dX6_habit_1 : decode cX6_habit 1 = .ok (.iconst 4, 1) := by decide +kernel
theorem dX6_habit_2 : decode cX6_habit 2 = .ok (.if_icmp .ne 5, 3) := by decide +kernel
theorem dX6_habit_5 : decode cX6_habit 5 = .ok (.iconst 0, 1) := by decide +kernel
theorem dX6_habit_6 : decode cX6_habit 6 = .ok (.ireturn, 1) := by decide +kernel
theorem dX6_habit_7 : decode cX6_habit 7 = .ok (.iload_n 1, 1) := by decide +kernel
theorem dX6_habit_8 : decode cX6_habit 8 = .ok (.iconst 2, 1) := by decide +kernel
theorem dX6_habit_9 : decode cX6_habit 9 = .ok (.if_icmp .ne 11, 3) := by decide +kernel
theorem dX6_habit_12 : decode cX6_habit 12 = .ok (.aload_n 0, 1) := by decide +kernel
theorem dX6_habit_13 : decode cX6_habit 13 = .ok (.iload_n 3, 1) := by decide +kernel
theorem dX6_habit_14 : decode cX6_habit 14 = .ok (.invokevirtual 70, 3) := by decide +kernel
theorem dX6_habit_17 : decode cX6_habit 17 = .ok (.goto 4, 3) := by decide +kernel
theorem dX6_habit_20 : decode cX6_habit 20 = .ok (.iconst 0, 1) := by decide +kernel
theorem dX6_habit_21 : decode cX6_habit 21 = .ok (.istore 4, 2) := by decide +kernel
theorem dX6_habit_23 : decode cX6_habit 23 = .ok (.aload_n 0, 1) := by decide +kernel
theorem dX6_habit_24 : decode cX6_habit 24 = .ok (.getfield 54, 3) := by decide +kernel
theorem dX6_habit_27 : decode cX6_habit 27 = .ok (.aload_n 0, 1) := by decide +kernel
theorem dX6_habit_28 : decode cX6_habit 28 = .ok (.getfield 36, 3) := by decide +kernel
theorem dX6_habit_31 : decode cX6_habit 31 = .ok (.iload 4, 2) := by decide +kernel
theorem dX6_habit_33 : decode cX6_habit 33 = .ok (.isub, 1) := by decide +kernel
theorem dX6_habit_34 : decode cX6_habit 34 = .ok (.invokestatic 78, 3) := by decide +kernel
theorem dX6_habit_37 : decode cX6_habit 37 = .ok (.iload_n 2, 1) := by decide +kernel
theorem dX6_habit_38 : decode cX6_habit 38 = .ok (.aload_n 0, 1) := by decide +kernel
theorem dX6_habit_39 : decode cX6_habit 39 = .ok (.getfield 48, 3) := by decide +kernel
theorem dX6_habit_42 : decode cX6_habit 42 = .ok (.invokestatic 83, 3) := by decide +kernel
theorem dX6_habit_45 : decode cX6_habit 45 = .ok (.invokestatic 78, 3) := by decide +kernel
theorem dX6_habit_48 : decode cX6_habit 48 = .ok (.istore 5, 2) := by decide +kernel
theorem dX6_habit_50 : decode cX6_habit 50 = .ok (.iload_n 1, 1) := by decide +kernel
theorem dX6_habit_51 : decode cX6_habit 51 = .ok (.iconst 2, 1) := by decide +kernel
theorem dX6_habit_52 : decode cX6_habit 52 = .ok (.if_icmp .eq 20, 3) := by decide +kernel
theorem dX6_habit_55 : decode cX6_habit 55 = .ok (.aload_n 0, 1) := by decide +kernel
theorem dX6_habit_56 : decode cX6_habit 56 = .ok (.getfield 36, 3) := by decide +kernel
theorem dX6_habit_59 : decode cX6_habit 59 = .ok (.iload 5, 2) := by decide +kernel
theorem dX6_habit_61 : decode cX6_habit 61 = .ok (.isub, 1) := by decide +kernel
theorem dX6_habit_62 : decode cX6_habit 62 = .ok (.aload_n 0, 1) := by decide +kernel
theorem dX6_habit_63 : decode cX6_habit 63 = .ok (.iload_n 3, 1) := by decide +kernel
theorem dX6_habit_64 : decode cX6_habit 64 = .ok (.invokevirtual 70, 3) := by decide +kernel
theorem dX6_habit_67 : decode cX6_habit 67 = .ok (.invokestatic 78, 3) := by decide +kernel
theorem dX6_habit_70 : decode cX6_habit 70 = .ok (.istore 4, 2) := by decide +kernel
theorem dX6_habit_72 : decode cX6_habit 72 = .ok (.iconst 0, 1) := by decide +kernel
theorem dX6_habit_73 : decode cX6_habit 73 = .ok (.istore 6, 2) := by decide +kernel
theorem dX6_habit_75 : decode cX6_habit 75 = .ok (.iload_n 1, 1) := by decide +kernel
theorem dX6_habit_76 : decode cX6_habit 76 = .ok (.ifCond .eq 15, 3) := by decide +kernel
theorem dX6_habit_79 : decode cX6_habit 79 = .ok (.iload_n 1, 1) := by decide +kernel
theorem dX6_habit_80 : decode cX6_habit 80 = .ok (.iconst 2, 1) := by decide +kernel
theorem dX6_habit_81 : decode cX6_habit 81 = .ok (.if_icmp .ne 52, 3) := by decide +kernel
theorem dX6_habit_84 : decode cX6_habit 84 = .ok (.aload_n 0, 1) := by decide +kernel
theorem dX6_habit_85 : decode cX6_habit 85 = .ok (.getfield 67, 3) := by decide +kernel
theorem dX6_habit_88 : decode cX6_habit 88 = .ok (.ifCond .eq 45, 3) := by decide +kernel
theorem dX6_habit_91 : decode cX6_habit 91 = .ok (.iconst 5, 1) := by decide +kernel
theorem dX6_habit_92 : decode cX6_habit 92 = .ok (.iload_n 3, 1) := by decide +kernel
theorem dX6_habit_93 : decode cX6_habit 93 = .ok (.isub, 1) := by decide +kernel
theorem dX6_habit_94 : decode cX6_habit 94 = .ok (.iload 4, 2) := by decide +kernel
theorem dX6_habit_96 : decode cX6_habit 96 = .ok (.iadd, 1) := by decide +kernel
theorem dX6_habit_97 : decode cX6_habit 97 = .ok (.istore 7, 2) := by decide +kernel
theorem dX6_habit_99 : decode cX6_habit 99 = .ok (.iload_n 2, 1) := by decide +kernel
theorem dX6_habit_100 : decode cX6_habit 100 = .ok (.iload 5, 2) := by decide +kernel
theorem dX6_habit_102 : decode cX6_habit 102 = .ok (.aload_n 0, 1) := by decide +kernel
theorem dX6_habit_103 : decode cX6_habit 103 = .ok (.getfield 48, 3) := by decide +kernel
theorem dX6_habit_106 : decode cX6_habit 106 = .ok (.imul, 1) := by decide +kernel
theorem dX6_habit_107 : decode cX6_habit 107 = .ok (.isub, 1) := by decide +kernel
theorem dX6_habit_108 : decode cX6_habit 108 = .ok (.aload_n 0, 1) := by decide +kernel
theorem dX6_habit_109 : decode cX6_habit 109 = .ok (.getfield 51, 3) := by decide +kernel
theorem dX6_habit_112 : decode cX6_habit 112 = .ok (.invokestatic 83, 3) := by decide +kernel
theorem dX6_habit_115 : decode cX6_habit 115 = .ok (.istore 8, 2) := by decide +kernel
theorem dX6_habit_117 : decode cX6_habit 117 = .ok (.aload_n 0, 1) := by decide +kernel
theorem dX6_habit_118 : decode cX6_habit 118 = .ok (.getfield 57, 3) := by decide +kernel
theorem dX6_habit_121 : decode cX6_habit 121 = .ok (.iload 7, 2) := by decide +kernel
theorem dX6_habit_123 : decode cX6_habit 123 = .ok (.invokestatic 78, 3) := by decide +kernel
theorem dX6_habit_126 : decode cX6_habit 126 = .ok (.iload 8, 2) := by decide +kernel
theorem dX6_habit_128 : decode cX6_habit 128 = .ok (.invokestatic 78, 3) := by decide +kernel
theorem dX6_habit_131 : decode cX6_habit 131 = .ok (.istore 6, 2) := by decide +kernel
theorem dX6_habit_133 : decode cX6_habit 133 = .ok (.bipush 16, 2) := by decide +kernel
theorem dX6_habit_135 : decode cX6_habit 135 = .ok (.iload 6, 2) := by decide +kernel
theorem dX6_habit_137 : decode cX6_habit 137 = .ok (.imul, 1) := by decide +kernel
theorem dX6_habit_138 : decode cX6_habit 138 = .ok (.iconst 4, 1) := by decide +kernel
theorem dX6_habit_139 : decode cX6_habit 139 = .ok (.iload 4, 2) := by decide +kernel
theorem dX6_habit_141 : decode cX6_habit 141 = .ok (.imul, 1) := by decide +kernel
theorem dX6_habit_142 : decode cX6_habit 142 = .ok (.iadd, 1) := by decide +kernel
theorem dX6_habit_143 : decode cX6_habit 143 = .ok (.iload 5, 2) := by decide +kernel
theorem dX6_habit_145 : decode cX6_habit 145 = .ok (.iadd, 1) := by decide +kernel
theorem dX6_habit_146 : decode cX6_habit 146 = .ok (.ireturn, 1) := by decide +kernel
theorem dX7_init_0 : decode cX7_init 0 = .ok (.aload_n 0, 1) := by decide +kernel
theorem dX7_init_1 : decode cX7_init 1 = .ok (.invokespecial 3, 3) := by decide +kernel
theorem dX7_init_4 : decode cX7_init 4 = .ok (.aload_n 0, 1) := by decide +kernel
theorem dX7_init_5 : decode cX7_init 5 = .ok (.bipush 7, 2) := by decide +kernel
theorem dX7_init_7 : decode cX7_init 7 = .ok (.newarray .int, 2) := by decide +kernel
theorem dX7_init_9 : decode cX7_init 9 = .ok (.putfield 9, 3) := by decide +kernel
theorem dX7_init_12 : decode cX7_init 12 = .ok (.aload_n 0, 1) := by decide +kernel
theorem dX7_init_13 : decode cX7_init 13 = .ok (.iconst 4, 1) := by decide +kernel
theorem dX7_init_14 : decode cX7_init 14 = .ok (.newarray .int, 2) := by decide +kernel
theorem dX7_init_16 : decode cX7_init 16 = .ok (.putfield 15, 3) := by decide +kernel
theorem dX7_init_19 : decode cX7_init 19 = .ok (.aload_n 0, 1) := by decide +kernel
theorem dX7_init_20 : decode cX7_init 20 = .ok (.iconst 4, 1) := by decide +kernel
theorem dX7_init_21 : decode cX7_init 21 = .ok (.newarray .int, 2) := by decide +kernel
theorem dX7_init_23 : decode cX7_init 23 = .ok (.putfield 18, 3) := by decide +kernel
theorem dX7_init_26 : decode cX7_init 26 = .ok (.aload_n 0, 1) := by decide +kernel
theorem dX7_init_27 : decode cX7_init 27 = .ok (.iconst 4, 1) := by decide +kernel
theorem dX7_init_28 : decode cX7_init 28 = .ok (.newarray .int, 2) := by decide +kernel
theorem dX7_init_30 : decode cX7_init 30 = .ok (.putfield 21, 3) := by decide +kernel
theorem dX7_init_33 : decode cX7_init 33 = .ok (.aload_n 0, 1) := by decide +kernel
theorem dX7_init_34 : decode cX7_init 34 = .ok (.iconst 4, 1) := by decide +kernel
theorem dX7_init_35 : decode cX7_init 35 = .ok (.newarray .int, 2) := by decide +kernel
theorem dX7_init_37 : decode cX7_init 37 = .ok (.putfield 24, 3) := by decide +kernel
theorem dX7_init_40 : decode cX7_init 40 = .ok (.aload_n 0, 1) := by decide +kernel
theorem dX7_init_41 : decode cX7_init 41 = .ok (.bipush 28, 2) := by decide +kernel
theorem dX7_init_43 : decode cX7_init 43 = .ok (.newarray .int, 2) := by decide +kernel
theorem dX7_init_45 : decode cX7_init 45 = .ok (.putfield 27, 3) := by decide +kernel
theorem dX7_init_48 : decode cX7_init 48 = .ok (.aload_n 0, 1) := by decide +kernel
theorem dX7_init_49 : decode cX7_init 49 = .ok (.bipush 28, 2) := by decide +kernel
theorem dX7_init_51 : decode cX7_init 51 = .ok (.newarray .int, 2) := by decide +kernel
theorem dX7_init_53 : decode cX7_init 53 = .ok (.putfield 30, 3) := by decide +kernel
theorem dX7_init_56 : decode cX7_init 56 = .ok (.aload_n 0, 1) := by decide +kernel
theorem dX7_init_57 : decode cX7_init 57 = .ok (.bipush 28, 2) := by decide +kernel
theorem dX7_init_59 : decode cX7_init 59 = .ok (.newarray .int, 2) := by decide +kernel
theorem dX7_init_61 : decode cX7_init 61 = .ok (.putfield 33, 3) := by decide +kernel
theorem dX7_init_64 : decode cX7_init 64 = .ok (.aload_n 0, 1) := by decide +kernel
theorem dX7_init_65 : decode cX7_init 65 = .ok (.bipush 28, 2) := by decide +kernel
theorem dX7_init_67 : decode cX7_init 67 = .ok (.newarray .int, 2) := by decide +kernel
theorem dX7_init_69 : decode cX7_init 69 = .ok (.putfield 36, 3) := by decide +kernel
theorem dX7_init_72 : decode cX7_init 72 = .ok (.aload_n 0, 1) := by decide +kernel
theorem dX7_init_73 : decode cX7_init 73 = .ok (.iconst 3, 1) := by decide +kernel
theorem dX7_init_74 : decode cX7_init 74 = .ok (.newarray .int, 2) := by decide +kernel
theorem dX7_init_76 : decode cX7_init 76 = .ok (.putfield 39, 3) := by decide +kernel
theorem dX7_init_79 : decode cX7_init 79 = .ok (.aload_n 0, 1) := by decide +kernel
theorem dX7_init_80 : decode cX7_init 80 = .ok (.iconst 3, 1) := by decide +kernel
theorem dX7_init_81 : decode cX7_init 81 = .ok (.newarray .int, 2) := by decide +kernel
theorem dX7_init_83 : decode cX7_init 83 = .ok (.putfield 42, 3) := by decide +kernel
theorem dX7_init_86 : decode cX7_init 86 = .ok (.aload_n 0, 1) := by decide +kernel
theorem dX7_init_87 : decode cX7_init 87 = .ok (.bipush 21, 2) := by decide +kernel
theorem dX7_init_89 : decode cX7_init 89 = .ok (.newarray .int, 2) := by decide +kernel
theorem dX7_init_91 : decode cX7_init 91 = .ok (.putfield 45, 3) := by decide +kernel
theorem dX7_init_94 : decode cX7_init 94 = .ok (.aload_n 0, 1) := by decide +kernel
theorem dX7_init_95 : decode cX7_init 95 = .ok (.bipush 21, 2) := by decide +kernel
theorem dX7_init_97 : decode cX7_init 97 = .ok (.newarray .int, 2) := by decide +kernel
theorem dX7_init_99 : decode cX7_init 99 = .ok (.putfield 48, 3) := by decide +kernel
theorem dX7_init_102 : decode cX7_init 102 = .ok (.aload_n 0, 1) := by decide +kernel
theorem dX7_init_103 : decode cX7_init 103 = .ok (.bipush 7, 2) := by decide +kernel
theorem dX7_init_105 : decode cX7_init 105 = .ok (.newarray .long, 2) := by decide +kernel
theorem dX7_init_107 : decode cX7_init 107 = .ok (.putfield 51, 3) := by decide +kernel
theorem dX7_init_110 : decode cX7_init 110 = .ok (.aload_n 0, 1) := by decide +kernel
theorem dX7_init_111 : decode cX7_init 111 = .ok (.bipush 48, 2) := by decide +kernel
theorem dX7_init_113 : decode cX7_init 113 = .ok (.newarray .int, 2) := by decide +kernel
theorem dX7_init_115 : decode cX7_init 115 = .ok (.putfield 55, 3) := by decide +kernel
theorem dX7_init_118 : decode cX7_init 118 = .ok (.aload_n 0, 1) := by decide +kernel
theorem dX7_init_119 : decode cX7_init 119 = .ok (.invokevirtual 58, 3) := by decide +kernel
theorem dX7_init_122 : decode cX7_init 122 = .ok (.return_, 1) := by decide +kernel
theorem dX7_forget_0 : decode cX7_forget 0 = .ok (.aload_n 0, 1) := by decide +kernel
theorem dX7_forget_1 : decode cX7_forget 1 = .ok (.iconst 0, 1) := by decide +kernel
theorem dX7_forget_2 : decode cX7_forget 2 = .ok (.putfield 61, 3) := by decide +kernel
theorem dX7_forget_5 : decode cX7_forget 5 = .ok (.aload_n 0, 1) := by decide +kernel
theorem dX7_forget_6 : decode cX7_forget 6 = .ok (.iconst 0, 1) := by decide +kernel
theorem dX7_forget_7 : decode cX7_forget 7 = .ok (.putfield 65, 3) := by decide +kernel
theorem dX7_forget_10 : decode cX7_forget 10 = .ok (.aload_n 0, 1) := by decide +kernel
theorem dX7_forget_11 : decode cX7_forget 11 = .ok (.iconst 0, 1) := by decide +kernel
theorem dX7_forget_12 : decode cX7_forget 12 = .ok (.putfield 68, 3) := by decide +kernel
theorem dX7_forget_15 : decode cX7_forget 15 = .ok (.aload_n 0, 1) := by decide +kernel
theorem dX7_forget_16 : decode cX7_forget 16 = .ok (.iconst (-1), 1) := by decide +kernel
theorem dX7_forget_17 : decode cX7_forget 17 = .ok (.putfield 71, 3) := by decide +kernel
theorem dX7_forget_20 : decode cX7_forget 20 = .ok (.aload_n 0, 1) := by decide +kernel
theorem dX7_forget_21 : decode cX7_forget 21 = .ok (.iconst (-1), 1) := by decide +kernel
theorem dX7_forget_22 : decode cX7_forget 22 = .ok (.putfield 74, 3) := by decide +kernel
theorem dX7_forget_25 : decode cX7_forget 25 = .ok (.aload_n 0, 1) := by decide +kernel
theorem dX7_forget_26 : decode cX7_forget 26 = .ok (.getfield 9, 3) := by decide +kernel
theorem dX7_forget_29 : decode cX7_forget 29 = .ok (.iconst 0, 1) := by decide +kernel
theorem dX7_forget_30 : decode cX7_forget 30 = .ok (.invokestatic 77, 3) := by decide +kernel
theorem dX7_forget_33 : decode cX7_forget 33 = .ok (.aload_n 0, 1) := by decide +kernel
theorem dX7_forget_34 : decode cX7_forget 34 = .ok (.getfield 24, 3) := by decide +kernel
theorem dX7_forget_37 : decode cX7_forget 37 = .ok (.iconst 0, 1) := by decide +kernel
theorem dX7_forget_38 : decode cX7_forget 38 = .ok (.invokestatic 77, 3) := by decide +kernel
theorem dX7_forget_41 : decode cX7_forget 41 = .ok (.aload_n 0, 1) := by decide +kernel
theorem dX7_forget_42 : decode cX7_forget 42 = .ok (.getfield 27, 3) := by decide +kernel
theorem dX7_forget_45 : decode cX7_forget 45 = .ok (.iconst 0, 1) := by decide +kernel
theorem dX7_forget_46 : decode cX7_forget 46 = .ok (.invokestatic 77, 3) := by decide +kernel
theorem dX7_forget_49 : decode cX7_forget 49 = .ok (.aload_n 0, 1) := by decide +kernel
theorem dX7_forget_50 : decode cX7_forget 50 = .ok (.getfield 30, 3) := by decide +kernel
theorem dX7_forget_53 : decode cX7_forget 53 = .ok (.iconst (-1), 1) := by decide +kernel
theorem dX7_forget_54 : decode cX7_forget 54 = .ok (.invokestatic 77, 3) := by decide +kernel
theorem dX7_forget_57 : decode cX7_forget 57 = .ok (.aload_n 0, 1) := by decide +kernel
theorem dX7_forget_58 : decode cX7_forget 58 = .ok (.getfield 33, 3) := by decide +kernel
theorem dX7_forget_61 : decode cX7_forget 61 = .ok (.iconst 0, 1) := by decide +kernel
theorem dX7_forget_62 : decode cX7_forget 62 = .ok (.invokestatic 77, 3) := by decide +kernel
theorem dX7_forget_65 : decode cX7_forget 65 = .ok (.aload_n 0, 1) := by decide +kernel
theorem dX7_forget_66 : decode cX7_forget 66 = .ok (.getfield 36, 3) := by decide +kernel
theorem dX7_forget_69 : decode cX7_forget 69 = .ok (.iconst 0, 1) := by decide +kernel
theorem dX7_forget_70 : decode cX7_forget 70 = .ok (.invokestatic 77, 3) := by decide +kernel
theorem dX7_forget_73 : decode cX7_forget 73 = .ok (.aload_n 0, 1) := by decide +kernel
theorem dX7_forget_74 : decode cX7_forget 74 = .ok (.getfield 45, 3) := by decide +kernel
theorem dX7_forget_77 : decode cX7_forget 77 = .ok (.iconst 5, 1) := by decide +kernel
theorem dX7_forget_78 : decode cX7_forget 78 = .ok (.invokestatic 77, 3) := by decide +kernel
theorem dX7_forget_81 : decode cX7_forget 81 = .ok (.aload_n 0, 1) := by decide +kernel
theorem dX7_forget_82 : decode cX7_forget 82 = .ok (.getfield 48, 3) := by decide +kernel
theorem dX7_forget_85 : decode cX7_forget 85 = .ok (.iconst (-1), 1) := by decide +kernel
theorem dX7_forget_86 : decode cX7_forget 86 = .ok (.invokestatic 77, 3) := by decide +kernel
theorem dX7_forget_89 : decode cX7_forget 89 = .ok (.aload_n 0, 1) := by decide +kernel
theorem dX7_forget_90 : decode cX7_forget 90 = .ok (.getfield 55, 3) := by decide +kernel
theorem dX7_forget_93 : decode cX7_forget 93 = .ok (.iconst 0, 1) := by decide +kernel
theorem dX7_forget_94 : decode cX7_forget 94 = .ok (.invokestatic 77, 3) := by decide +kernel
theorem dX7_forget_97 : decode cX7_forget 97 = .ok (.return_, 1) := by decide +kernel
theorem dX7_sortNamed_0 : decode cX7_sortNamed 0 = .ok (.aload_n 0, 1) := by decide +kernel
theorem dX7_sortNamed_1 : decode cX7_sortNamed 1 = .ok (.lload_n 1, 1) := by decide +kernel
theorem dX7_sortNamed_2 : decode cX7_sortNamed 2 = .ok (.iconst 0, 1) := by decide +kernel
theorem dX7_sortNamed_3 : decode cX7_sortNamed 3 = .ok (.aload_n 0, 1) := by decide +kernel
theorem dX7_sortNamed_4 : decode cX7_sortNamed 4 = .ok (.getfield 65, 3) := by decide +kernel
theorem dX7_sortNamed_7 : decode cX7_sortNamed 7 = .ok (.invokevirtual 83, 3) := by decide +kernel
theorem dX7_sortNamed_10 : decode cX7_sortNamed 10 = .ok (.ireturn, 1) := by decide +kernel
theorem dX7_thingNamed_0 : decode cX7_thingNamed 0 = .ok (.aload_n 0, 1) := by decide +kernel
theorem dX7_thingNamed_1 : decode cX7_thingNamed 1 = .ok (.lload_n 1, 1) := by decide +kernel
theorem dX7_thingNamed_2 : decode cX7_thingNamed 2 = .ok (.iconst 4, 1) := by decide +kernel
theorem dX7_thingNamed_3 : decode cX7_thingNamed 3 = .ok (.aload_n 0, 1) := by decide +kernel
theorem dX7_thingNamed_4 : decode cX7_thingNamed 4 = .ok (.getfield 68, 3) := by decide +kernel
theorem dX7_thingNamed_7 : decode cX7_thingNamed 7 = .ok (.invokevirtual 83, 3) := by decide +kernel
theorem dX7_thingNamed_10 : decode cX7_thingNamed 10 = .ok (.ireturn, 1) := by decide +kernel
theorem dX7_named_0 : decode cX7_named 0 = .ok (.iconst 0, 1) := by decide +kernel
theorem dX7_named_1 : decode cX7_named 1 = .ok (.istore 5, 2) := by decide +kernel
theorem dX7_named_3 : decode cX7_named 3 = .ok (.iload 5, 2) := by decide +kernel
theorem dX7_named_5 : decode cX7_named 5 = .ok (.iload 4, 2) := by decide +kernel
theorem dX7_named_7 : decode cX7_named 7 = .ok (.if_icmp .ge 26, 3) := by decide +kernel
theorem dX7_named_10 : decode cX7_named 10 = .ok (.aload_n 0, 1) := by decide +kernel
theorem dX7_named_11 : decode cX7_named 11 = .ok (.getfield 51, 3) := by decide +kernel
theorem dX7_named_14 : decode cX7_named 14 = .ok (.iload_n 3, 1) := by decide +kernel
theorem dX7_named_15 : decode cX7_named 15 = .ok (.iload 5, 2) := by decide +kernel
theorem dX7_named_17 : decode cX7_named 17 = .ok (.iadd, 1) := by decide +kernel
theorem dX7_named_18 : decode cX7_named 18 = .ok (.laload, 1) := by decide +kernel
theorem dX7_named_19 : decode cX7_named 19 = .ok (.lload_n 1, 1) := by decide +kernel
theorem dX7_named_20 : decode cX7_named 20 = .ok (.lcmp, 1) := by decide +kernel
theorem dX7_named_21 : decode cX7_named 21 = .ok (.ifCond .ne 6, 3) := by decide +kernel
theorem dX7_named_24 : decode cX7_named 24 = .ok (.iload 5, 2) := by decide +kernel
theorem dX7_named_26 : decode cX7_named 26 = .ok (.ireturn, 1) := by decide +kernel
theorem dX7_named_27 : decode cX7_named 27 = .ok (.iinc 5 1, 3) := by decide +kernel
theorem dX7_named_30 : decode cX7_named 30 = .ok (.goto (-27), 3) := by decide +kernel
theorem dX7_named_33 : decode cX7_named 33 = .ok (.iconst (-1), 1) := by decide +kernel
theorem dX7_named_34 : decode cX7_named 34 = .ok (.ireturn, 1) := by decide +kernel
theorem dX7_name_0 : decode cX7_name 0 = .ok (.aload_n 0, 1) := by decide +kernel
theorem dX7_name_1 : decode cX7_name 1 = .ok (.getfield 51, 3) := by decide +kernel
theorem dX7_name_4 : decode cX7_name 4 = .ok (.iload_n 1, 1) := by decide +kernel
theorem dX7_name_5 : decode cX7_name 5 = .ok (.ifCond .eq 10, 3) := by decide +kernel
theorem dX7_name_8 : decode cX7_name 8 = .ok (.aload_n 0, 1) := by decide +kernel
theorem dX7_name_9 : decode cX7_name 9 = .ok (.getfield 65, 3) := by decide +kernel
theorem dX7_name_12 : decode cX7_name 12 = .ok (.goto 9, 3) := by decide +kernel
theorem dX7_name_15 : decode cX7_name 15 = .ok (.iconst 4, 1) := by decide +kernel
theorem dX7_name_16 : decode cX7_name 16 = .ok (.aload_n 0, 1) := by decide +kernel
theorem dX7_name_17 : decode cX7_name 17 = .ok (.getfield 68, 3) := by decide +kernel
theorem dX7_name_20 : decode cX7_name 20 = .ok (.iadd, 1) := by decide +kernel
theorem dX7_name_21 : decode cX7_name 21 = .ok (.lload_n 2, 1) := by decide +kernel
theorem dX7_name_22 : decode cX7_name 22 = .ok (.lastore, 1) := by decide +kernel
theorem dX7_name_23 : decode cX7_name 23 = .ok (.return_, 1) := by decide +kernel
theorem dX7_isTold_0 : decode cX7_isTold 0 = .ok (.aload_n 0, 1) := by decide +kernel
theorem dX7_isTold_1 : decode cX7_isTold 1 = .ok (.getfield 55, 3) := by decide +kernel
theorem dX7_isTold_4 : decode cX7_isTold 4 = .ok (.iload_n 1, 1) := by decide +kernel
theorem dX7_isTold_5 : decode cX7_isTold 5 = .ok (.iconst 4, 1) := by decide +kernel
theorem dX7_isTold_6 : decode cX7_isTold 6 = .ok (.imul, 1) := by decide +kernel
theorem dX7_isTold_7 : decode cX7_isTold 7 = .ok (.iload_n 2, 1) := by decide +kernel
theorem dX7_isTold_8 : decode cX7_isTold 8 = .ok (.iadd, 1) := by decide +kernel
theorem dX7_isTold_9 : decode cX7_isTold 9 = .ok (.iaload, 1) := by decide +kernel
theorem dX7_isTold_10 : decode cX7_isTold 10 = .ok (.iload_n 3, 1) := by decide +kernel
theorem dX7_isTold_11 : decode cX7_isTold 11 = .ok (.ishr, 1) := by decide +kernel
theorem dX7_isTold_12 : decode cX7_isTold 12 = .ok (.iconst 1, 1) := by decide +kernel
theorem dX7_isTold_13 : decode cX7_isTold 13 = .ok (.iand, 1) := by decide +kernel
theorem dX7_isTold_14 : decode cX7_isTold 14 = .ok (.ifCond .eq 7, 3) := by decide +kernel
theorem dX7_isTold_17 : decode cX7_isTold 17 = .ok (.iconst 1, 1) := by decide +kernel
theorem dX7_isTold_18 : decode cX7_isTold 18 = .ok (.goto 4, 3) := by decide +kernel
theorem dX7_isTold_21 : decode cX7_isTold 21 = .ok (.iconst 0, 1) := by decide +kernel
theorem dX7_isTold_22 : decode cX7_isTold 22 = .ok (.ireturn, 1) := by decide +kernel
theorem dX7_faultAhead_0 : decode cX7_faultAhead 0 = .ok (.iload_n 1, 1) := by decide +kernel
theorem dX7_faultAhead_1 : decode cX7_faultAhead 1 = .ok (.iconst 1, 1) := by decide +kernel
theorem dX7_faultAhead_2 : decode cX7_faultAhead 2 = .ok (.if_icmp .ne 11, 3) := by decide +kernel
theorem dX7_faultAhead_5 : decode cX7_faultAhead 5 = .ok (.aload_n 0, 1) := by decide +kernel
theorem dX7_faultAhead_6 : decode cX7_faultAhead 6 = .ok (.getfield 65, 3) := by decide +kernel
theorem dX7_faultAhead_9 : decode cX7_faultAhead 9 = .ok (.iconst 4, 1) := by decide +kernel
theorem dX7_faultAhead_10 : decode cX7_faultAhead 10 = .ok (.if_icmp .eq 16, 3) := by decide +kernel
theorem dX7_faultAhead_13 : decode cX7_faultAhead 13 = .ok (.iload_n 1, 1) := by decide +kernel
theorem dX7_faultAhead_14 : decode cX7_faultAhead 14 = .ok (.iconst 2, 1) := by decide +kernel
theorem dX7_faultAhead_15 : decode cX7_faultAhead 15 = .ok (.if_icmp .ne 13, 3) := by decide +kernel
theorem dX7_faultAhead_18 : decode cX7_faultAhead 18 = .ok (.aload_n 0, 1) := by decide +kernel
theorem dX7_faultAhead_19 : decode cX7_faultAhead 19 = .ok (.getfield 68, 3) := by decide +kernel
theorem dX7_faultAhead_22 : decode cX7_faultAhead 22 = .ok (.iconst 3, 1) := by decide +kernel
theorem dX7_faultAhead_23 : decode cX7_faultAhead 23 = .ok (.if_icmp .ne 5, 3) := by decide +kernel
theorem dX7_faultAhead_26 : decode cX7_faultAhead 26 = .ok (.iconst 4, 1) := by decide +kernel
theorem dX7_faultAhead_27 : decode cX7_faultAhead 27 = .ok (.ireturn, 1) := by decide +kernel
theorem dX7_faultAhead_28 : decode cX7_faultAhead 28 = .ok (.iload_n 1, 1) := by decide +kernel
theorem dX7_faultAhead_29 : decode cX7_faultAhead 29 = .ok (.bipush 8, 2) := by decide +kernel
theorem dX7_faultAhead_31 : decode cX7_faultAhead 31 = .ok (.if_icmp .eq 9, 3) := by decide +kernel
theorem dX7_faultAhead_34 : decode cX7_faultAhead 34 = .ok (.iload_n 1, 1) := by decide +kernel
theorem dX7_faultAhead_35 : decode cX7_faultAhead 35 = .ok (.bipush 9, 2) := by decide +kernel
theorem dX7_faultAhead_37 : decode cX7_faultAhead 37 = .ok (.if_icmp .ne 17, 3) := by decide +kernel
theorem dX7_faultAhead_40 : decode cX7_faultAhead 40 = .ok (.aload_n 0, 1) := by decide +kernel
theorem dX7_faultAhead_41 : decode cX7_faultAhead 41 = .ok (.iload_n 1, 1) := by decide +kernel
theorem dX7_faultAhead_42 : decode cX7_faultAhead 42 = .ok (.iconst 0, 1) := by decide +kernel
theorem dX7_faultAhead_43 : decode cX7_faultAhead 43 = .ok (.iconst 0, 1) := by decide +kernel
theorem dX7_faultAhead_44 : decode cX7_faultAhead 44 = .ok (.invokevirtual 87, 3) := by decide +kernel
theorem dX7_faultAhead_47 : decode cX7_faultAhead 47 = .ok (.ifCond .eq 7, 3) := by decide +kernel
theorem dX7_faultAhead_50 : decode cX7_faultAhead 50 = .ok (.iconst 3, 1) := by decide +kernel
theorem dX7_faultAhead_51 : decode cX7_faultAhead 51 = .ok (.goto 4, 3) := by decide +kernel
theorem dX7_faultAhead_54 : decode cX7_faultAhead 54 = .ok (.iconst 0, 1) := by decide +kernel
theorem dX7_faultAhead_55 : decode cX7_faultAhead 55 = .ok (.ireturn, 1) := by decide +kernel
theorem dX7_tell_0 : decode cX7_tell 0 = .ok (.aload_n 0, 1) := by decide +kernel
theorem dX7_tell_1 : decode cX7_tell 1 = .ok (.dup, 1) := by decide +kernel
theorem dX7_tell_2 : decode cX7_tell 2 = .ok (.getfield 61, 3) := by decide +kernel
theorem dX7_tell_5 : decode cX7_tell 5 = .ok (.iconst 1, 1) := by decide +kernel
theorem dX7_tell_6 : decode cX7_tell 6 = .ok (.iadd, 1) := by decide +kernel
theorem dX7_tell_7 : decode cX7_tell 7 = .ok (.putfield 61, 3) := by decide +kernel
theorem dX7_tell_10 : decode cX7_tell 10 = .ok (.iload_n 1, 1) := by decide +kernel
theorem dX7_tell_11 : decode cX7_tell 11 = .ok (.tableswitch 167 0 8 #[49, 62, 70, 78, 91, 104, 117, 125, 149], 49) := by decide +kernel
theorem dX7_tell_60 : decode cX7_tell 60 = .ok (.aload_n 0, 1) := by decide +kernel
theorem dX7_tell_61 : decode cX7_tell 61 = .ok (.aload_n 2, 1) := by decide +kernel
theorem dX7_tell_62 : decode cX7_tell 62 = .ok (.iconst 0, 1) := by decide +kernel
theorem dX7_tell_63 : decode cX7_tell 63 = .ok (.iaload, 1) := by decide +kernel
theorem dX7_tell_64 : decode cX7_tell 64 = .ok (.aload_n 2, 1) := by decide +kernel
theorem dX7_tell_65 : decode cX7_tell 65 = .ok (.iconst 1, 1) := by decide +kernel
theorem dX7_tell_66 : decode cX7_tell 66 = .ok (.iaload, 1) := by decide +kernel
theorem dX7_tell_67 : decode cX7_tell 67 = .ok (.invokevirtual 91, 3) := by decide +kernel
theorem dX7_tell_70 : decode cX7_tell 70 = .ok (.goto 123, 3) := by decide +kernel
theorem dX7_tell_73 : decode cX7_tell 73 = .ok (.aload_n 0, 1) := by decide +kernel
theorem dX7_tell_74 : decode cX7_tell 74 = .ok (.aload_n 2, 1) := by decide +kernel
theorem dX7_tell_75 : decode cX7_tell 75 = .ok (.invokevirtual 95, 3) := by decide +kernel
theorem dX7_tell_78 : decode cX7_tell 78 = .ok (.goto 115, 3) := by decide +kernel
theorem dX7_tell_81 : decode cX7_tell 81 = .ok (.aload_n 0, 1) := by decide +kernel
theorem dX7_tell_82 : decode cX7_tell 82 = .ok (.aload_n 2, 1) := by decide +kernel
theorem dX7_tell_83 : decode cX7_tell 83 = .ok (.invokevirtual 99, 3) := by decide +kernel
theorem dX7_tell_86 : decode cX7_tell 86 = .ok (.goto 107, 3) := by decide +kernel
theorem dX7_tell_89 : decode cX7_tell 89 = .ok (.aload_n 0, 1) := by decide +kernel
theorem dX7_tell_90 : decode cX7_tell 90 = .ok (.aload_n 0, 1) := by decide +kernel
theorem dX7_tell_91 : decode cX7_tell 91 = .ok (.getfield 27, 3) := by decide +kernel
theorem dX7_tell_94 : decode cX7_tell 94 = .ok (.iload_n 1, 1) := by decide +kernel
theorem dX7_tell_95 : decode cX7_tell 95 = .ok (.aload_n 2, 1) := by decide +kernel
theorem dX7_tell_96 : decode cX7_tell 96 = .ok (.invokevirtual 102, 3) := by decide +kernel
theorem dX7_tell_99 : decode cX7_tell 99 = .ok (.goto 94, 3) := by decide +kernel
theorem dX7_tell_102 : decode cX7_tell 102 = .ok (.aload_n 0, 1) := by decide +kernel
theorem dX7_tell_103 : decode cX7_tell 103 = .ok (.aload_n 0, 1) := by decide +kernel
theorem dX7_tell_104 : decode cX7_tell 104 = .ok (.getfield 45, 3) := by decide +kernel
theorem dX7_tell_107 : decode cX7_tell 107 = .ok (.iload_n 1, 1) := by decide +kernel
theorem dX7_tell_108 : decode cX7_tell 108 = .ok (.aload_n 2, 1) := by decide +kernel
theorem dX7_tell_109 : decode cX7_tell 109 = .ok (.invokevirtual 102, 3) := by decide +kernel
theorem dX7_tell_112 : decode cX7_tell 112 = .ok (.goto 81, 3) := by decide +kernel
theorem dX7_tell_115 : decode cX7_tell 115 = .ok (.aload_n 0, 1) := by decide +kernel
theorem dX7_tell_116 : decode cX7_tell 116 = .ok (.aload_n 0, 1) := by decide +kernel
theorem dX7_tell_117 : decode cX7_tell 117 = .ok (.getfield 48, 3) := by decide +kernel
theorem dX7_tell_120 : decode cX7_tell 120 = .ok (.iload_n 1, 1) := by decide +kernel
theorem dX7_tell_121 : decode cX7_tell 121 = .ok (.aload_n 2, 1) := by decide +kernel
theorem dX7_tell_122 : decode cX7_tell 122 = .ok (.invokevirtual 102, 3) := by decide +kernel
theorem dX7_tell_125 : decode cX7_tell 125 = .ok (.goto 68, 3) := by decide +kernel
theorem dX7_tell_128 : decode cX7_tell 128 = .ok (.aload_n 0, 1) := by decide +kernel
theorem dX7_tell_129 : decode cX7_tell 129 = .ok (.aload_n 2, 1) := by decide +kernel
theorem dX7_tell_130 : decode cX7_tell 130 = .ok (.invokevirtual 106, 3) := by decide +kernel
theorem dX7_tell_133 : decode cX7_tell 133 = .ok (.goto 60, 3) := by decide +kernel
theorem dX7_tell_136 : decode cX7_tell 136 = .ok (.aload_n 0, 1) := by decide +kernel
theorem dX7_tell_137 : decode cX7_tell 137 = .ok (.getfield 24, 3) := by decide +kernel
theorem dX7_tell_140 : decode cX7_tell 140 = .ok (.aload_n 2, 1) := by decide +kernel
theorem dX7_tell_141 : decode cX7_tell 141 = .ok (.iconst 0, 1) := by decide +kernel
theorem dX7_tell_142 : decode cX7_tell 142 = .ok (.iaload, 1) := by decide +kernel
theorem dX7_tell_143 : decode cX7_tell 143 = .ok (.aload_n 2, 1) := by decide +kernel
theorem dX7_tell_144 : decode cX7_tell 144 = .ok (.iconst 1, 1) := by decide +kernel
theorem dX7_tell_145 : decode cX7_tell 145 = .ok (.iaload, 1) := by decide +kernel
theorem dX7_tell_146 : decode cX7_tell 146 = .ok (.iastore, 1) := by decide +kernel
theorem dX7_tell_147 : decode cX7_tell 147 = .ok (.aload_n 0, 1) := by decide +kernel
theorem dX7_tell_148 : decode cX7_tell 148 = .ok (.bipush 7, 2) := by decide +kernel
theorem dX7_tell_150 : decode cX7_tell 150 = .ok (.aload_n 2, 1) := by decide +kernel
theorem dX7_tell_151 : decode cX7_tell 151 = .ok (.iconst 0, 1) := by decide +kernel
theorem dX7_tell_152 : decode cX7_tell 152 = .ok (.iaload, 1) := by decide +kernel
theorem dX7_tell_153 : decode cX7_tell 153 = .ok (.iconst 0, 1) := by decide +kernel
theorem dX7_tell_154 : decode cX7_tell 154 = .ok (.invokevirtual 109, 3) := by decide +kernel
theorem dX7_tell_157 : decode cX7_tell 157 = .ok (.goto 36, 3) := by decide +kernel
theorem dX7_tell_160 : decode cX7_tell 160 = .ok (.aload_n 0, 1) := by decide +kernel
theorem dX7_tell_161 : decode cX7_tell 161 = .ok (.aload_n 2, 1) := by decide +kernel
theorem dX7_tell_162 : decode cX7_tell 162 = .ok (.iconst 0, 1) := by decide +kernel
theorem dX7_tell_163 : decode cX7_tell 163 = .ok (.iaload, 1) := by decide +kernel
theorem dX7_tell_164 : decode cX7_tell 164 = .ok (.putfield 71, 3) := by decide +kernel
theorem dX7_tell_167 : decode cX7_tell 167 = .ok (.aload_n 0, 1) := by decide +kernel
theorem dX7_tell_168 : decode cX7_tell 168 = .ok (.bipush 8, 2) := by decide +kernel
theorem dX7_tell_170 : decode cX7_tell 170 = .ok (.iconst 0, 1) := by decide +kernel
theorem dX7_tell_171 : decode cX7_tell 171 = .ok (.iconst 0, 1) := by decide +kernel
theorem dX7_tell_172 : decode cX7_tell 172 = .ok (.invokevirtual 109, 3) := by decide +kernel
theorem dX7_tell_175 : decode cX7_tell 175 = .ok (.goto 18, 3) := by decide +kernel
theorem dX7_tell_178 : decode cX7_tell 178 = .ok (.aload_n 0, 1) := by decide +kernel
theorem dX7_tell_179 : decode cX7_tell 179 = .ok (.aload_n 2, 1) := by decide +kernel
theorem dX7_tell_180 : decode cX7_tell 180 = .ok (.iconst 0, 1) := by decide +kernel
theorem dX7_tell_181 : decode cX7_tell 181 = .ok (.iaload, 1) := by decide +kernel
theorem dX7_tell_182 : decode cX7_tell 182 = .ok (.putfield 74, 3) := by decide +kernel
theorem dX7_tell_185 : decode cX7_tell 185 = .ok (.aload_n 0, 1) := by decide +kernel
theorem dX7_tell_186 : decode cX7_tell 186 = .ok (.bipush 9, 2) := by decide +kernel
theorem dX7_tell_188 : decode cX7_tell 188 = .ok (.iconst 0, 1) := by decide +kernel
theorem dX7_tell_189 : decode cX7_tell 189 = .ok (.iconst 0, 1) := by decide +kernel
theorem dX7_tell_190 : decode cX7_tell 190 = .ok (.invokevirtual 109, 3) := by decide +kernel
theorem dX7_tell_193 : decode cX7_tell 193 = .ok (.return_, 1) := by decide +kernel
theorem dX7_tellLoss_0 : decode cX7_tellLoss 0 = .ok (.aload_n 0, 1) := by decide +kernel
theorem dX7_tellLoss_1 : decode cX7_tellLoss 1 = .ok (.getfield 9, 3) := by decide +kernel
theorem dX7_tellLoss_4 : decode cX7_tellLoss 4 = .ok (.iload_n 1, 1) := by decide +kernel
theorem dX7_tellLoss_5 : decode cX7_tellLoss 5 = .ok (.iload_n 2, 1) := by decide +kernel
theorem dX7_tellLoss_6 : decode cX7_tellLoss 6 = .ok (.iastore, 1) := by decide +kernel
theorem dX7_tellLoss_7 : decode cX7_tellLoss 7 = .ok (.aload_n 0, 1) := by decide +kernel
theorem dX7_tellLoss_8 : decode cX7_tellLoss 8 = .ok (.iconst 0, 1) := by decide +kernel
theorem dX7_tellLoss_9 : decode cX7_tellLoss 9 = .ok (.iconst 0, 1) := by decide +kernel
theorem dX7_tellLoss_10 : decode cX7_tellLoss 10 = .ok (.iload_n 1, 1) := by decide +kernel
theorem dX7_tellLoss_11 : decode cX7_tellLoss 11 = .ok (.invokevirtual 109, 3) := by decide +kernel
theorem dX7_tellLoss_14 : decode cX7_tellLoss 14 = .ok (.return_, 1) := by decide +kernel
theorem dX7_tellSort_0 : decode cX7_tellSort 0 = .ok (.aload_n 0, 1) := by decide +kernel
theorem dX7_tellSort_1 : decode cX7_tellSort 1 = .ok (.getfield 15, 3) := by decide +kernel
theorem dX7_tellSort_4 : decode cX7_tellSort 4 = .ok (.aload_n 0, 1) := by decide +kernel
theorem dX7_tellSort_5 : decode cX7_tellSort 5 = .ok (.getfield 65, 3) := by decide +kernel
theorem dX7_tellSort_8 : decode cX7_tellSort 8 = .ok (.aload_n 1, 1) := by decide +kernel
theorem dX7_tellSort_9 : decode cX7_tellSort 9 = .ok (.iconst 1, 1) := by decide +kernel
theorem dX7_tellSort_10 : decode cX7_tellSort 10 = .ok (.iaload, 1) := by decide +kernel
theorem dX7_tellSort_11 : decode cX7_tellSort 11 = .ok (.iastore, 1) := by decide +kernel
theorem dX7_tellSort_12 : decode cX7_tellSort 12 = .ok (.aload_n 0, 1) := by decide +kernel
theorem dX7_tellSort_13 : decode cX7_tellSort 13 = .ok (.getfield 18, 3) := by decide +kernel
theorem dX7_tellSort_16 : decode cX7_tellSort 16 = .ok (.aload_n 0, 1) := by decide +kernel
theorem dX7_tellSort_17 : decode cX7_tellSort 17 = .ok (.getfield 65, 3) := by decide +kernel
theorem dX7_tellSort_20 : decode cX7_tellSort 20 = .ok (.aload_n 1, 1) := by decide +kernel
theorem dX7_tellSort_21 : decode cX7_tellSort 21 = .ok (.iconst 2, 1) := by decide +kernel
theorem dX7_tellSort_22 : decode cX7_tellSort 22 = .ok (.iaload, 1) := by decide +kernel
theorem dX7_tellSort_23 : decode cX7_tellSort 23 = .ok (.iastore, 1) := by decide +kernel
theorem dX7_tellSort_24 : decode cX7_tellSort 24 = .ok (.aload_n 0, 1) := by decide +kernel
theorem dX7_tellSort_25 : decode cX7_tellSort 25 = .ok (.getfield 21, 3) := by decide +kernel
theorem dX7_tellSort_28 : decode cX7_tellSort 28 = .ok (.aload_n 0, 1) := by decide +kernel
theorem dX7_tellSort_29 : decode cX7_tellSort 29 = .ok (.getfield 65, 3) := by decide +kernel
theorem dX7_tellSort_32 : decode cX7_tellSort 32 = .ok (.aload_n 1, 1) := by decide +kernel
theorem dX7_tellSort_33 : decode cX7_tellSort 33 = .ok (.iconst 3, 1) := by decide +kernel
theorem dX7_tellSort_34 : decode cX7_tellSort 34 = .ok (.iaload, 1) := by decide +kernel
theorem dX7_tellSort_35 : decode cX7_tellSort 35 = .ok (.iastore, 1) := by decide +kernel
theorem dX7_tellSort_36 : decode cX7_tellSort 36 = .ok (.aload_n 0, 1) := by decide +kernel
theorem dX7_tellSort_37 : decode cX7_tellSort 37 = .ok (.dup, 1) := by decide +kernel
theorem dX7_tellSort_38 : decode cX7_tellSort 38 = .ok (.getfield 65, 3) := by decide +kernel
theorem dX7_tellSort_41 : decode cX7_tellSort 41 = .ok (.iconst 1, 1) := by decide +kernel
theorem dX7_tellSort_42 : decode cX7_tellSort 42 = .ok (.iadd, 1) := by decide +kernel
theorem dX7_tellSort_43 : decode cX7_tellSort 43 = .ok (.putfield 65, 3) := by decide +kernel
theorem dX7_tellSort_46 : decode cX7_tellSort 46 = .ok (.return_, 1) := by decide +kernel
theorem dX7_tellThing_0 : decode cX7_tellThing 0 = .ok (.aload_n 0, 1) := by decide +kernel
theorem dX7_tellThing_1 : decode cX7_tellThing 1 = .ok (.getfield 39, 3) := by decide +kernel
theorem dX7_tellThing_4 : decode cX7_tellThing 4 = .ok (.aload_n 0, 1) := by decide +kernel
theorem dX7_tellThing_5 : decode cX7_tellThing 5 = .ok (.getfield 68, 3) := by decide +kernel
theorem dX7_tellThing_8 : decode cX7_tellThing 8 = .ok (.aload_n 1, 1) := by decide +kernel
theorem dX7_tellThing_9 : decode cX7_tellThing 9 = .ok (.iconst 1, 1) := by decide +kernel
theorem dX7_tellThing_10 : decode cX7_tellThing 10 = .ok (.iaload, 1) := by decide +kernel
theorem dX7_tellThing_11 : decode cX7_tellThing 11 = .ok (.iastore, 1) := by decide +kernel
theorem dX7_tellThing_12 : decode cX7_tellThing 12 = .ok (.aload_n 0, 1) := by decide +kernel
theorem dX7_tellThing_13 : decode cX7_tellThing 13 = .ok (.getfield 42, 3) := by decide +kernel
theorem dX7_tellThing_16 : decode cX7_tellThing 16 = .ok (.aload_n 0, 1) := by decide +kernel
theorem dX7_tellThing_17 : decode cX7_tellThing 17 = .ok (.getfield 68, 3) := by decide +kernel
theorem dX7_tellThing_20 : decode cX7_tellThing 20 = .ok (.aload_n 1, 1) := by decide +kernel
theorem dX7_tellThing_21 : decode cX7_tellThing 21 = .ok (.iconst 2, 1) := by decide +kernel
theorem dX7_tellThing_22 : decode cX7_tellThing 22 = .ok (.iaload, 1) := by decide +kernel
theorem dX7_tellThing_23 : decode cX7_tellThing 23 = .ok (.iastore, 1) := by decide +kernel
theorem dX7_tellThing_24 : decode cX7_tellThing 24 = .ok (.aload_n 0, 1) := by decide +kernel
theorem dX7_tellThing_25 : decode cX7_tellThing 25 = .ok (.dup, 1) := by decide +kernel
theorem dX7_tellThing_26 : decode cX7_tellThing 26 = .ok (.getfield 68, 3) := by decide +kernel
theorem dX7_tellThing_29 : decode cX7_tellThing 29 = .ok (.iconst 1, 1) := by decide +kernel
theorem dX7_tellThing_30 : decode cX7_tellThing 30 = .ok (.iadd, 1) := by decide +kernel
theorem dX7_tellThing_31 : decode cX7_tellThing 31 = .ok (.putfield 68, 3) := by decide +kernel
theorem dX7_tellThing_34 : decode cX7_tellThing 34 = .ok (.aload_n 0, 1) := by decide +kernel
theorem dX7_tellThing_35 : decode cX7_tellThing 35 = .ok (.getfield 74, 3) := by decide +kernel
theorem dX7_tellThing_38 : decode cX7_tellThing 38 = .ok (.iconst (-1), 1) := by decide +kernel
theorem dX7_tellThing_39 : decode cX7_tellThing 39 = .ok (.if_icmp .ne 8, 3) := by decide +kernel
theorem dX7_tellThing_42 : decode cX7_tellThing 42 = .ok (.aload_n 0, 1) := by decide +kernel
theorem dX7_tellThing_43 : decode cX7_tellThing 43 = .ok (.iconst 0, 1) := by decide +kernel
theorem dX7_tellThing_44 : decode cX7_tellThing 44 = .ok (.putfield 74, 3) := by decide +kernel
theorem dX7_tellThing_47 : decode cX7_tellThing 47 = .ok (.return_, 1) := by decide +kernel
theorem dX7_tellOn_0 : decode cX7_tellOn 0 = .ok (.aload_n 1, 1) := by decide +kernel
theorem dX7_tellOn_1 : decode cX7_tellOn 1 = .ok (.aload_n 3, 1) := by decide +kernel
theorem dX7_tellOn_2 : decode cX7_tellOn 2 = .ok (.iconst 0, 1) := by decide +kernel
theorem dX7_tellOn_3 : decode cX7_tellOn 3 = .ok (.iaload, 1) := by decide +kernel
theorem dX7_tellOn_4 : decode cX7_tellOn 4 = .ok (.bipush 7, 2) := by decide +kernel
theorem dX7_tellOn_6 : decode cX7_tellOn 6 = .ok (.imul, 1) := by decide +kernel
theorem dX7_tellOn_7 : decode cX7_tellOn 7 = .ok (.aload_n 3, 1) := by decide +kernel
theorem dX7_tellOn_8 : decode cX7_tellOn 8 = .ok (.iconst 1, 1) := by decide +kernel
theorem dX7_tellOn_9 : decode cX7_tellOn 9 = .ok (.iaload, 1) := by decide +kernel
theorem dX7_tellOn_10 : decode cX7_tellOn 10 = .ok (.iadd, 1) := by decide +kernel
theorem dX7_tellOn_11 : decode cX7_tellOn 11 = .ok (.aload_n 3, 1) := by decide +kernel
theorem dX7_tellOn_12 : decode cX7_tellOn 12 = .ok (.iconst 2, 1) := by decide +kernel
theorem dX7_tellOn_13 : decode cX7_tellOn 13 = .ok (.iaload, 1) := by decide +kernel
theorem dX7_tellOn_14 : decode cX7_tellOn 14 = .ok (.iastore, 1) := by decide +kernel
theorem dX7_tellOn_15 : decode cX7_tellOn 15 = .ok (.aload_n 0, 1) := by decide +kernel
theorem dX7_tellOn_16 : decode cX7_tellOn 16 = .ok (.iload_n 2, 1) := by decide +kernel
theorem dX7_tellOn_17 : decode cX7_tellOn 17 = .ok (.aload_n 3, 1) := by decide +kernel
theorem dX7_tellOn_18 : decode cX7_tellOn 18 = .ok (.iconst 0, 1) := by decide +kernel
theorem dX7_tellOn_19 : decode cX7_tellOn 19 = .ok (.iaload, 1) := by decide +kernel
theorem dX7_tellOn_20 : decode cX7_tellOn 20 = .ok (.aload_n 3, 1) := by decide +kernel
theorem dX7_tellOn_21 : decode cX7_tellOn 21 = .ok (.iconst 1, 1) := by decide +kernel
theorem dX7_tellOn_22 : decode cX7_tellOn 22 = .ok (.iaload, 1) := by decide +kernel
theorem dX7_tellOn_23 : decode cX7_tellOn 23 = .ok (.invokevirtual 109, 3) := by decide +kernel
theorem dX7_tellOn_26 : decode cX7_tellOn 26 = .ok (.return_, 1) := by decide +kernel
theorem dX7_tellWant_0 : decode cX7_tellWant 0 = .ok (.aload_n 1, 1) := by decide +kernel
theorem dX7_tellWant_1 : decode cX7_tellWant 1 = .ok (.iconst 0, 1) := by decide +kernel
theorem dX7_tellWant_2 : decode cX7_tellWant 2 = .ok (.iaload, 1) := by decide +kernel
theorem dX7_tellWant_3 : decode cX7_tellWant 3 = .ok (.bipush 7, 2) := by decide +kernel
theorem dX7_tellWant_5 : decode cX7_tellWant 5 = .ok (.imul, 1) := by decide +kernel
theorem dX7_tellWant_6 : decode cX7_tellWant 6 = .ok (.aload_n 1, 1) := by decide +kernel
theorem dX7_tellWant_7 : decode cX7_tellWant 7 = .ok (.iconst 2, 1) := by decide +kernel
theorem dX7_tellWant_8 : decode cX7_tellWant 8 = .ok (.iaload, 1) := by decide +kernel
theorem dX7_tellWant_9 : decode cX7_tellWant 9 = .ok (.iadd, 1) := by decide +kernel
theorem dX7_tellWant_10 : decode cX7_tellWant 10 = .ok (.istore_n 2, 1) := by decide +kernel
theorem dX7_tellWant_11 : decode cX7_tellWant 11 = .ok (.aload_n 0, 1) := by decide +kernel
theorem dX7_tellWant_12 : decode cX7_tellWant 12 = .ok (.getfield 30, 3) := by decide +kernel
theorem dX7_tellWant_15 : decode cX7_tellWant 15 = .ok (.iload_n 2, 1) := by decide +kernel
theorem dX7_tellWant_16 : decode cX7_tellWant 16 = .ok (.aload_n 1, 1) := by decide +kernel
theorem dX7_tellWant_17 : decode cX7_tellWant 17 = .ok (.iconst 1, 1) := by decide +kernel
theorem dX7_tellWant_18 : decode cX7_tellWant 18 = .ok (.iaload, 1) := by decide +kernel
theorem dX7_tellWant_19 : decode cX7_tellWant 19 = .ok (.iastore, 1) := by decide +kernel
theorem dX7_tellWant_20 : decode cX7_tellWant 20 = .ok (.aload_n 0, 1) := by decide +kernel
theorem dX7_tellWant_21 : decode cX7_tellWant 21 = .ok (.getfield 33, 3) := by decide +kernel
theorem dX7_tellWant_24 : decode cX7_tellWant 24 = .ok (.iload_n 2, 1) := by decide +kernel
theorem dX7_tellWant_25 : decode cX7_tellWant 25 = .ok (.aload_n 1, 1) := by decide +kernel
theorem dX7_tellWant_26 : decode cX7_tellWant 26 = .ok (.iconst 3, 1) := by decide +kernel
theorem dX7_tellWant_27 : decode cX7_tellWant 27 = .ok (.iaload, 1) := by decide +kernel
theorem dX7_tellWant_28 : decode cX7_tellWant 28 = .ok (.iastore, 1) := by decide +kernel
theorem dX7_tellWant_29 : decode cX7_tellWant 29 = .ok (.aload_n 0, 1) := by decide +kernel
theorem dX7_tellWant_30 : decode cX7_tellWant 30 = .ok (.getfield 36, 3) := by decide +kernel
theorem dX7_tellWant_33 : decode cX7_tellWant 33 = .ok (.iload_n 2, 1) := by decide +kernel
theorem dX7_tellWant_34 : decode cX7_tellWant 34 = .ok (.aload_n 1, 1) := by decide +kernel
theorem dX7_tellWant_35 : decode cX7_tellWant 35 = .ok (.iconst 4, 1) := by decide +kernel
theorem dX7_tellWant_36 : decode cX7_tellWant 36 = .ok (.iaload, 1) := by decide +kernel
theorem dX7_tellWant_37 : decode cX7_tellWant 37 = .ok (.iastore, 1) := by decide +kernel
theorem dX7_tellWant_38 : decode cX7_tellWant 38 = .ok (.aload_n 0, 1) := by decide +kernel
theorem dX7_tellWant_39 : decode cX7_tellWant 39 = .ok (.bipush 6, 2) := by decide +kernel
theorem dX7_tellWant_41 : decode cX7_tellWant 41 = .ok (.aload_n 1, 1) := by decide +kernel
theorem dX7_tellWant_42 : decode cX7_tellWant 42 = .ok (.iconst 0, 1) := by decide +kernel
theorem dX7_tellWant_43 : decode cX7_tellWant 43 = .ok (.iaload, 1) := by decide +kernel
theorem dX7_tellWant_44 : decode cX7_tellWant 44 = .ok (.aload_n 1, 1) := by decide +kernel
theorem dX7_tellWant_45 : decode cX7_tellWant 45 = .ok (.iconst 2, 1) := by decide +kernel
theorem dX7_tellWant_46 : decode cX7_tellWant 46 = .ok (.iaload, 1) := by decide +kernel
theorem dX7_tellWant_47 : decode cX7_tellWant 47 = .ok (.invokevirtual 109, 3) := by decide +kernel
theorem dX7_tellWant_50 : decode cX7_tellWant 50 = .ok (.return_, 1) := by decide +kernel
theorem dX7_hold_0 : decode cX7_hold 0 = .ok (.aload_n 0, 1) := by decide +kernel
theorem dX7_hold_1 : decode cX7_hold 1 = .ok (.getfield 55, 3) := by decide +kernel
theorem dX7_hold_4 : decode cX7_hold 4 = .ok (.iload_n 1, 1) := by decide +kernel
theorem dX7_hold_5 : decode cX7_hold 5 = .ok (.iconst 4, 1) := by decide +kernel
theorem dX7_hold_6 : decode cX7_hold 6 = .ok (.imul, 1) := by decide +kernel
theorem dX7_hold_7 : decode cX7_hold 7 = .ok (.iload_n 2, 1) := by decide +kernel
theorem dX7_hold_8 : decode cX7_hold 8 = .ok (.iadd, 1) := by decide +kernel
theorem dX7_hold_9 : decode cX7_hold 9 = .ok (.dup2, 1) := by decide +kernel
theorem dX7_hold_10 : decode cX7_hold 10 = .ok (.iaload, 1) := by decide +kernel
theorem dX7_hold_11 : decode cX7_hold 11 = .ok (.iconst 1, 1) := by decide +kernel
theorem dX7_hold_12 : decode cX7_hold 12 = .ok (.iload_n 3, 1) := by decide +kernel
theorem dX7_hold_13 : decode cX7_hold 13 = .ok (.ishl, 1) := by decide +kernel
theorem dX7_hold_14 : decode cX7_hold 14 = .ok (.ior, 1) := by decide +kernel
theorem dX7_hold_15 : decode cX7_hold 15 = .ok (.iastore, 1) := by decide +kernel
theorem dX7_hold_16 : decode cX7_hold 16 = .ok (.return_, 1) := by decide +kernel
theorem dX7_isLoss_0 : decode cX7_isLoss 0 = .ok (.aload_n 1, 1) := by decide +kernel
theorem dX7_isLoss_1 : decode cX7_isLoss 1 = .ok (.iconst 2, 1) := by decide +kernel
theorem dX7_isLoss_2 : decode cX7_isLoss 2 = .ok (.iaload, 1) := by decide +kernel
theorem dX7_isLoss_3 : decode cX7_isLoss 3 = .ok (.istore_n 2, 1) := by decide +kernel
theorem dX7_isLoss_4 : decode cX7_isLoss 4 = .ok (.aload_n 1, 1) := by decide +kernel
theorem dX7_isLoss_5 : decode cX7_isLoss 5 = .ok (.iconst 0, 1) := by decide +kernel
theorem dX7_isLoss_6 : decode cX7_isLoss 6 = .ok (.iaload, 1) := by decide +kernel
theorem dX7_isLoss_7 : decode cX7_isLoss 7 = .ok (.bipush 7, 2) := by decide +kernel
theorem dX7_isLoss_9 : decode cX7_isLoss 9 = .ok (.imul, 1) := by decide +kernel
theorem dX7_isLoss_10 : decode cX7_isLoss 10 = .ok (.iload_n 2, 1) := by decide +kernel
theorem dX7_isLoss_11 : decode cX7_isLoss 11 = .ok (.iadd, 1) := by decide +kernel
theorem dX7_isLoss_12 : decode cX7_isLoss 12 = .ok (.istore_n 3, 1) := by decide +kernel
theorem dX7_isLoss_13 : decode cX7_isLoss 13 = .ok (.aload_n 0, 1) := by decide +kernel
theorem dX7_isLoss_14 : decode cX7_isLoss 14 = .ok (.getfield 30, 3) := by decide +kernel
theorem dX7_isLoss_17 : decode cX7_isLoss 17 = .ok (.iload_n 3, 1) := by decide +kernel
theorem dX7_isLoss_18 : decode cX7_isLoss 18 = .ok (.iaload, 1) := by decide +kernel
theorem dX7_isLoss_19 : decode cX7_isLoss 19 = .ok (.aload_n 1, 1) := by decide +kernel
theorem dX7_isLoss_20 : decode cX7_isLoss 20 = .ok (.iconst 1, 1) := by decide +kernel
theorem dX7_isLoss_21 : decode cX7_isLoss 21 = .ok (.iaload, 1) := by decide +kernel
theorem dX7_isLoss_22 : decode cX7_isLoss 22 = .ok (.if_icmp .ne 15, 3) := by decide +kernel
theorem dX7_isLoss_25 : decode cX7_isLoss 25 = .ok (.aload_n 0, 1) := by decide +kernel
theorem dX7_isLoss_26 : decode cX7_isLoss 26 = .ok (.getfield 33, 3) := by decide +kernel
theorem dX7_isLoss_29 : decode cX7_isLoss 29 = .ok (.iload_n 3, 1) := by decide +kernel
theorem dX7_isLoss_30 : decode cX7_isLoss 30 = .ok (.iaload, 1) := by decide +kernel
theorem dX7_isLoss_31 : decode cX7_isLoss 31 = .ok (.aload_n 1, 1) := by decide +kernel
theorem dX7_isLoss_32 : decode cX7_isLoss 32 = .ok (.iconst 3, 1) := by decide +kernel
theorem dX7_isLoss_33 : decode cX7_isLoss 33 = .ok (.iaload, 1) := by decide +kernel
theorem dX7_isLoss_34 : decode cX7_isLoss 34 = .ok (.if_icmp .ge 5, 3) := by decide +kernel
theorem dX7_isLoss_37 : decode cX7_isLoss 37 = .ok (.iconst 1, 1) := by decide +kernel
theorem dX7_isLoss_38 : decode cX7_isLoss 38 = .ok (.ireturn, 1) := by decide +kernel
theorem dX7_isLoss_39 : decode cX7_isLoss 39 = .ok (.aload_n 0, 1) := by decide +kernel
theorem dX7_isLoss_40 : decode cX7_isLoss 40 = .ok (.getfield 36, 3) := by decide +kernel
theorem dX7_isLoss_43 : decode cX7_isLoss 43 = .ok (.iload_n 3, 1) := by decide +kernel
theorem dX7_isLoss_44 : decode cX7_isLoss 44 = .ok (.iaload, 1) := by decide +kernel
theorem dX7_isLoss_45 : decode cX7_isLoss 45 = .ok (.istore 4, 2) := by decide +kernel
theorem dX7_isLoss_47 : decode cX7_isLoss 47 = .ok (.aload_n 1, 1) := by decide +kernel
theorem dX7_isLoss_48 : decode cX7_isLoss 48 = .ok (.iconst 4, 1) := by decide +kernel
theorem dX7_isLoss_49 : decode cX7_isLoss 49 = .ok (.iaload, 1) := by decide +kernel
theorem dX7_isLoss_50 : decode cX7_isLoss 50 = .ok (.istore 5, 2) := by decide +kernel
theorem dX7_isLoss_52 : decode cX7_isLoss 52 = .ok (.aload_n 0, 1) := by decide +kernel
theorem dX7_isLoss_53 : decode cX7_isLoss 53 = .ok (.getfield 9, 3) := by decide +kernel
theorem dX7_isLoss_56 : decode cX7_isLoss 56 = .ok (.iload_n 2, 1) := by decide +kernel
theorem dX7_isLoss_57 : decode cX7_isLoss 57 = .ok (.iaload, 1) := by decide +kernel
theorem dX7_isLoss_58 : decode cX7_isLoss 58 = .ok (.ifCond .le 29, 3) := by decide +kernel
theorem dX7_isLoss_61 : decode cX7_isLoss 61 = .ok (.iload 4, 2) := by decide +kernel
theorem dX7_isLoss_63 : decode cX7_isLoss 63 = .ok (.sipush 1000, 3) := by decide +kernel
theorem dX7_isLoss_66 : decode cX7_isLoss 66 = .ok (.imul, 1) := by decide +kernel
theorem dX7_isLoss_67 : decode cX7_isLoss 67 = .ok (.iload 5, 2) := by decide +kernel
theorem dX7_isLoss_69 : decode cX7_isLoss 69 = .ok (.sipush 1000, 3) := by decide +kernel
theorem dX7_isLoss_72 : decode cX7_isLoss 72 = .ok (.aload_n 0, 1) := by decide +kernel
theorem dX7_isLoss_73 : decode cX7_isLoss 73 = .ok (.getfield 9, 3) := by decide +kernel
theorem dX7_isLoss_76 : decode cX7_isLoss 76 = .ok (.iload_n 2, 1) := by decide +kernel
theorem dX7_isLoss_77 : decode cX7_isLoss 77 = .ok (.iaload, 1) := by decide +kernel
theorem dX7_isLoss_78 : decode cX7_isLoss 78 = .ok (.isub, 1) := by decide +kernel
theorem dX7_isLoss_79 : decode cX7_isLoss 79 = .ok (.imul, 1) := by decide +kernel
theorem dX7_isLoss_80 : decode cX7_isLoss 80 = .ok (.if_icmp .lt 7, 3) := by decide +kernel
theorem dX7_isLoss_83 : decode cX7_isLoss 83 = .ok (.iconst 1, 1) := by decide +kernel
theorem dX7_isLoss_84 : decode cX7_isLoss 84 = .ok (.goto 4, 3) := by decide +kernel
theorem dX7_isLoss_87 : decode cX7_isLoss 87 = .ok (.iconst 0, 1) := by decide +kernel
theorem dX7_isLoss_88 : decode cX7_isLoss 88 = .ok (.istore 6, 2) := by decide +kernel
theorem dX7_isLoss_90 : decode cX7_isLoss 90 = .ok (.iload 4, 2) := by decide +kernel
theorem dX7_isLoss_92 : decode cX7_isLoss 92 = .ok (.iload 5, 2) := by decide +kernel
theorem dX7_isLoss_94 : decode cX7_isLoss 94 = .ok (.if_icmp .ge 12, 3) := by decide +kernel
theorem dX7_isLoss_97 : decode cX7_isLoss 97 = .ok (.iload 6, 2) := by decide +kernel
theorem dX7_isLoss_99 : decode cX7_isLoss 99 = .ok (.ifCond .ne 7, 3) := by decide +kernel
theorem dX7_isLoss_102 : decode cX7_isLoss 102 = .ok (.iconst 1, 1) := by decide +kernel
theorem dX7_isLoss_103 : decode cX7_isLoss 103 = .ok (.goto 4, 3) := by decide +kernel
theorem dX7_isLoss_106 : decode cX7_isLoss 106 = .ok (.iconst 0, 1) := by decide +kernel
theorem dX7_isLoss_107 : decode cX7_isLoss 107 = .ok (.ireturn, 1) := by decide +kernel
theorem dX8_init_0 : decode cX8_init 0 = .ok (.aload_n 0, 1) := by decide +kernel
theorem dX8_init_1 : decode cX8_init 1 = .ok (.invokespecial 3, 3) := by decide +kernel
theorem dX8_init_4 : decode cX8_init 4 = .ok (.aload_n 0, 1) := by decide +kernel
theorem dX8_init_5 : decode cX8_init 5 = .ok (.bipush 100, 2) := by decide +kernel
theorem dX8_init_7 : decode cX8_init 7 = .ok (.newarray .int, 2) := by decide +kernel
theorem dX8_init_9 : decode cX8_init 9 = .ok (.putfield 9, 3) := by decide +kernel
theorem dX8_init_12 : decode cX8_init 12 = .ok (.aload_n 0, 1) := by decide +kernel
theorem dX8_init_13 : decode cX8_init 13 = .ok (.iconst 0, 1) := by decide +kernel
theorem dX8_init_14 : decode cX8_init 14 = .ok (.putfield 15, 3) := by decide +kernel
theorem dX8_init_17 : decode cX8_init 17 = .ok (.return_, 1) := by decide +kernel
theorem dX8_takenAt_0 : decode cX8_takenAt 0 = .ok (.aload_n 0, 1) := by decide +kernel
theorem dX8_takenAt_1 : decode cX8_takenAt 1 = .ok (.iload_n 1, 1) := by decide +kernel
theorem dX8_takenAt_2 : decode cX8_takenAt 2 = .ok (.putfield 19, 3) := by decide +kernel
theorem dX8_takenAt_5 : decode cX8_takenAt 5 = .ok (.aload_n 0, 1) := by decide +kernel
theorem dX8_takenAt_6 : decode cX8_takenAt 6 = .ok (.iload_n 2, 1) := by decide +kernel
theorem dX8_takenAt_7 : decode cX8_takenAt 7 = .ok (.putfield 22, 3) := by decide +kernel
theorem dX8_takenAt_10 : decode cX8_takenAt 10 = .ok (.return_, 1) := by decide +kernel
theorem dX8_lookBack_0 : decode cX8_lookBack 0 = .ok (.aload_n 0, 1) := by decide +kernel
theorem dX8_lookBack_1 : decode cX8_lookBack 1 = .ok (.getfield 9, 3) := by decide +kernel
theorem dX8_lookBack_4 : decode cX8_lookBack 4 = .ok (.iconst 0, 1) := by decide +kernel
theorem dX8_lookBack_5 : decode cX8_lookBack 5 = .ok (.invokestatic 25, 3) := by decide +kernel
theorem dX8_lookBack_8 : decode cX8_lookBack 8 = .ok (.iconst 1, 1) := by decide +kernel
theorem dX8_lookBack_9 : decode cX8_lookBack 9 = .ok (.istore 5, 2) := by decide +kernel
theorem dX8_lookBack_11 : decode cX8_lookBack 11 = .ok (.iload 5, 2) := by decide +kernel
theorem dX8_lookBack_13 : decode cX8_lookBack 13 = .ok (.iload_n 3, 1) := by decide +kernel
theorem dX8_lookBack_14 : decode cX8_lookBack 14 = .ok (.if_icmp .ge 88, 3) := by decide +kernel
theorem dX8_lookBack_17 : decode cX8_lookBack 17 = .ok (.aload_n 0, 1) := by decide +kernel
theorem dX8_lookBack_18 : decode cX8_lookBack 18 = .ok (.iload 5, 2) := by decide +kernel
theorem dX8_lookBack_20 : decode cX8_lookBack 20 = .ok (.iload 4, 2) := by decide +kernel
theorem dX8_lookBack_22 : decode cX8_lookBack 22 = .ok (.invokestatic 31, 3) := by decide +kernel
theorem dX8_lookBack_25 : decode cX8_lookBack 25 = .ok (.putfield 15, 3) := by decide +kernel
theorem dX8_lookBack_28 : decode cX8_lookBack 28 = .ok (.iload_n 1, 1) := by decide +kernel
theorem dX8_lookBack_29 : decode cX8_lookBack 29 = .ok (.istore 6, 2) := by decide +kernel
theorem dX8_lookBack_31 : decode cX8_lookBack 31 = .ok (.iload 6, 2) := by decide +kernel
theorem dX8_lookBack_33 : decode cX8_lookBack 33 = .ok (.ifCond .lt 63, 3) := by decide +kernel
theorem dX8_lookBack_36 : decode cX8_lookBack 36 = .ok (.iload_n 2, 1) := by decide +kernel
theorem dX8_lookBack_37 : decode cX8_lookBack 37 = .ok (.istore 7, 2) := by decide +kernel
theorem dX8_lookBack_39 : decode cX8_lookBack 39 = .ok (.iload 7, 2) := by decide +kernel
theorem dX8_lookBack_41 : decode cX8_lookBack 41 = .ok (.ifCond .lt 49, 3) := by decide +kernel
theorem dX8_lookBack_44 : decode cX8_lookBack 44 = .ok (.aload_n 0, 1) := by decide +kernel
theorem dX8_lookBack_45 : decode cX8_lookBack 45 = .ok (.iload 6, 2) := by decide +kernel
theorem dX8_lookBack_47 : decode cX8_lookBack 47 = .ok (.iload 7, 2) := by decide +kernel
theorem dX8_lookBack_49 : decode cX8_lookBack 49 = .ok (.invokevirtual 35, 3) := by decide +kernel
theorem dX8_lookBack_52 : decode cX8_lookBack 52 = .ok (.aload_n 0, 1) := by decide +kernel
theorem dX8_lookBack_53 : decode cX8_lookBack 53 = .ok (.iload 6, 2) := by decide +kernel
theorem dX8_lookBack_55 : decode cX8_lookBack 55 = .ok (.iload 7, 2) := by decide +kernel
theorem dX8_lookBack_57 : decode cX8_lookBack 57 = .ok (.invokevirtual 38, 3) := by decide +kernel
theorem dX8_lookBack_60 : decode cX8_lookBack 60 = .ok (.invokestatic 41, 3) := by decide +kernel
theorem dX8_lookBack_63 : decode cX8_lookBack 63 = .ok (.istore 8, 2) := by decide +kernel
theorem dX8_lookBack_65 : decode cX8_lookBack 65 = .ok (.aload_n 0, 1) := by decide +kernel
theorem dX8_lookBack_66 : decode cX8_lookBack 66 = .ok (.getfield 9, 3) := by decide +kernel
theorem dX8_lookBack_69 : decode cX8_lookBack 69 = .ok (.iload 6, 2) := by decide +kernel
theorem dX8_lookBack_71 : decode cX8_lookBack 71 = .ok (.bipush 10, 2) := by decide +kernel
theorem dX8_lookBack_73 : decode cX8_lookBack 73 = .ok (.imul, 1) := by decide +kernel
theorem dX8_lookBack_74 : decode cX8_lookBack 74 = .ok (.iload 7, 2) := by decide +kernel
theorem dX8_lookBack_76 : decode cX8_lookBack 76 = .ok (.iadd, 1) := by decide +kernel
theorem dX8_lookBack_77 : decode cX8_lookBack 77 = .ok (.iconst 0, 1) := by decide +kernel
theorem dX8_lookBack_78 : decode cX8_lookBack 78 = .ok (.iload 8, 2) := by decide +kernel
theorem dX8_lookBack_80 : decode cX8_lookBack 80 = .ok (.invokestatic 41, 3) := by decide +kernel
theorem dX8_lookBack_83 : decode cX8_lookBack 83 = .ok (.iastore, 1) := by decide +kernel
theorem dX8_lookBack_84 : decode cX8_lookBack 84 = .ok (.iinc 7 (-1), 3) := by decide +kernel
theorem dX8_lookBack_87 : decode cX8_lookBack 87 = .ok (.goto (-48), 3) := by decide +kernel
theorem dX8_lookBack_90 : decode cX8_lookBack 90 = .ok (.iinc 6 (-1), 3) := by decide +kernel
theorem dX8_lookBack_93 : decode cX8_lookBack 93 = .ok (.goto (-62), 3) := by decide +kernel
theorem dX8_lookBack_96 : decode cX8_lookBack 96 = .ok (.iinc 5 1, 3) := by decide +kernel
theorem dX8_lookBack_99 : decode cX8_lookBack 99 = .ok (.goto (-88), 3) := by decide +kernel
theorem dX8_lookBack_102 : decode cX8_lookBack 102 = .ok (.aload_n 0, 1) := by decide +kernel
theorem dX8_lookBack_103 : decode cX8_lookBack 103 = .ok (.iload_n 3, 1) := by decide +kernel
theorem dX8_lookBack_104 : decode cX8_lookBack 104 = .ok (.iload 4, 2) := by decide +kernel
theorem dX8_lookBack_106 : decode cX8_lookBack 106 = .ok (.invokestatic 31, 3) := by decide +kernel
theorem dX8_lookBack_109 : decode cX8_lookBack 109 = .ok (.putfield 15, 3) := by decide +kernel
theorem dX8_lookBack_112 : decode cX8_lookBack 112 = .ok (.return_, 1) := by decide +kernel
theorem dX8_offeringNote_0 : decode cX8_offeringNote 0 = .ok (.iload_n 1, 1) := by decide +kernel
theorem dX8_offeringNote_1 : decode cX8_offeringNote 1 = .ok (.iconst 1, 1) := by decide +kernel
theorem dX8_offeringNote_2 : decode cX8_offeringNote 2 = .ok (.if_icmp .ge 7, 3) := by decide +kernel
theorem dX8_offeringNote_5 : decode cX8_offeringNote 5 = .ok (.iconst (-1), 1) := by decide +kernel
theorem dX8_offeringNote_6 : decode cX8_offeringNote 6 = .ok (.goto 24, 3) := by decide +kernel
theorem dX8_offeringNote_9 : decode cX8_offeringNote 9 = .ok (.aload_n 0, 1) := by decide +kernel
theorem dX8_offeringNote_10 : decode cX8_offeringNote 10 = .ok (.getfield 19, 3) := by decide +kernel
theorem dX8_offeringNote_13 : decode cX8_offeringNote 13 = .ok (.aload_n 0, 1) := by decide +kernel
theorem dX8_offeringNote_14 : decode cX8_offeringNote 14 = .ok (.iload_n 1, 1) := by decide +kernel
theorem dX8_offeringNote_15 : decode cX8_offeringNote 15 = .ok (.iconst 1, 1) := by decide +kernel
theorem dX8_offeringNote_16 : decode cX8_offeringNote 16 = .ok (.isub, 1) := by decide +kernel
theorem dX8_offeringNote_17 : decode cX8_offeringNote 17 = .ok (.iload_n 2, 1) := by decide +kernel
theorem dX8_offeringNote_18 : decode cX8_offeringNote 18 = .ok (.invokevirtual 46, 3) := by decide +kernel
theorem dX8_offeringNote_21 : decode cX8_offeringNote 21 = .ok (.aload_n 0, 1) := by decide +kernel
theorem dX8_offeringNote_22 : decode cX8_offeringNote 22 = .ok (.iload_n 1, 1) := by decide +kernel
theorem dX8_offeringNote_23 : decode cX8_offeringNote 23 = .ok (.iload_n 2, 1) := by decide +kernel
theorem dX8_offeringNote_24 : decode cX8_offeringNote 24 = .ok (.invokevirtual 46, 3) := by decide +kernel
theorem dX8_offeringNote_27 : decode cX8_offeringNote 27 = .ok (.invokestatic 49, 3) := by decide +kernel
theorem dX8_offeringNote_30 : decode cX8_offeringNote 30 = .ok (.ireturn, 1) := by decide +kernel
theorem dX8_offeringOther_0 : decode cX8_offeringOther 0 = .ok (.iload_n 2, 1) := by decide +kernel
theorem dX8_offeringOther_1 : decode cX8_offeringOther 1 = .ok (.iconst 1, 1) := by decide +kernel
theorem dX8_offeringOther_2 : decode cX8_offeringOther 2 = .ok (.if_icmp .ge 7, 3) := by decide +kernel
theorem dX8_offeringOther_5 : decode cX8_offeringOther 5 = .ok (.iconst (-1), 1) := by decide +kernel
theorem dX8_offeringOther_6 : decode cX8_offeringOther 6 = .ok (.goto 24, 3) := by decide +kernel
theorem dX8_offeringOther_9 : decode cX8_offeringOther 9 = .ok (.aload_n 0, 1) := by decide +kernel
theorem dX8_offeringOther_10 : decode cX8_offeringOther 10 = .ok (.getfield 22, 3) := by decide +kernel
theorem dX8_offeringOther_13 : decode cX8_offeringOther 13 = .ok (.aload_n 0, 1) := by decide +kernel
theorem dX8_offeringOther_14 : decode cX8_offeringOther 14 = .ok (.iload_n 1, 1) := by decide +kernel
theorem dX8_offeringOther_15 : decode cX8_offeringOther 15 = .ok (.iload_n 2, 1) := by decide +kernel
theorem dX8_offeringOther_16 : decode cX8_offeringOther 16 = .ok (.iconst 1, 1) := by decide +kernel
theorem dX8_offeringOther_17 : decode cX8_offeringOther 17 = .ok (.isub, 1) := by decide +kernel
theorem dX8_offeringOther_18 : decode cX8_offeringOther 18 = .ok (.invokevirtual 46, 3) := by decide +kernel
theorem dX8_offeringOther_21 : decode cX8_offeringOther 21 = .ok (.aload_n 0, 1) := by decide +kernel
theorem dX8_offeringOther_22 : decode cX8_offeringOther 22 = .ok (.iload_n 1, 1) := by decide +kernel
theorem dX8_offeringOther_23 : decode cX8_offeringOther 23 = .ok (.iload_n 2, 1) := by decide +kernel
theorem dX8_offeringOther_24 : decode cX8_offeringOther 24 = .ok (.invokevirtual 46, 3) := by decide +kernel
theorem dX8_offeringOther_27 : decode cX8_offeringOther 27 = .ok (.invokestatic 49, 3) := by decide +kernel
theorem dX8_offeringOther_30 : decode cX8_offeringOther 30 = .ok (.ireturn, 1) := by decide +kernel
theorem dX8_behind_0 : decode cX8_behind 0 = .ok (.aload_n 0, 1) := by decide +kernel
theorem dX8_behind_1 : decode cX8_behind 1 = .ok (.getfield 9, 3) := by decide +kernel
theorem dX8_behind_4 : decode cX8_behind 4 = .ok (.iconst 0, 1) := by decide +kernel
theorem dX8_behind_5 : decode cX8_behind 5 = .ok (.iload_n 1, 1) := by decide +kernel
theorem dX8_behind_6 : decode cX8_behind 6 = .ok (.aload_n 0, 1) := by decide +kernel
theorem dX8_behind_7 : decode cX8_behind 7 = .ok (.getfield 15, 3) := by decide +kernel
theorem dX8_behind_10 : decode cX8_behind 10 = .ok (.isub, 1) := by decide +kernel
theorem dX8_behind_11 : decode cX8_behind 11 = .ok (.invokestatic 41, 3) := by decide +kernel
theorem dX8_behind_14 : decode cX8_behind 14 = .ok (.bipush 10, 2) := by decide +kernel
theorem dX8_behind_16 : decode cX8_behind 16 = .ok (.imul, 1) := by decide +kernel
theorem dX8_behind_17 : decode cX8_behind 17 = .ok (.iload_n 2, 1) := by decide +kernel
theorem dX8_behind_18 : decode cX8_behind 18 = .ok (.iadd, 1) := by decide +kernel
theorem dX8_behind_19 : decode cX8_behind 19 = .ok (.iaload, 1) := by decide +kernel
theorem dX8_behind_20 : decode cX8_behind 20 = .ok (.ireturn, 1) := by decide +kernel
theorem dX8_mean_0 : decode cX8_mean 0 = .ok (.iload_n 0, 1) := by decide +kernel
theorem dX8_mean_1 : decode cX8_mean 1 = .ok (.sipush 1000, 3) := by decide +kernel
theorem dX8_mean_4 : decode cX8_mean 4 = .ok (.iload_n 1, 1) := by decide +kernel
theorem dX8_mean_5 : decode cX8_mean 5 = .ok (.iadd, 1) := by decide +kernel
theorem dX8_mean_6 : decode cX8_mean 6 = .ok (.imul, 1) := by decide +kernel
theorem dX8_mean_7 : decode cX8_mean 7 = .ok (.bipush 100, 2) := by decide +kernel
theorem dX8_mean_9 : decode cX8_mean 9 = .ok (.iload_n 0, 1) := by decide +kernel
theorem dX8_mean_10 : decode cX8_mean 10 = .ok (.isub, 1) := by decide +kernel
theorem dX8_mean_11 : decode cX8_mean 11 = .ok (.iload_n 2, 1) := by decide +kernel
theorem dX8_mean_12 : decode cX8_mean 12 = .ok (.imul, 1) := by decide +kernel
theorem dX8_mean_13 : decode cX8_mean 13 = .ok (.iadd, 1) := by decide +kernel
theorem dX8_mean_14 : decode cX8_mean 14 = .ok (.bipush 100, 2) := by decide +kernel
theorem dX8_mean_16 : decode cX8_mean 16 = .ok (.idiv, 1) := by decide +kernel
theorem dX8_mean_17 : decode cX8_mean 17 = .ok (.ireturn, 1) := by decide +kernel
theorem dX8_losesOn_0 : decode cX8_losesOn 0 = .ok (.iload_n 1, 1) := by decide +kernel
theorem dX8_losesOn_1 : decode cX8_losesOn 1 = .ok (.ifCond .le 13, 3) := by decide +kernel
theorem dX8_losesOn_4 : decode cX8_losesOn 4 = .ok (.iload_n 0, 1) := by decide +kernel
theorem dX8_losesOn_5 : decode cX8_losesOn 5 = .ok (.iload_n 1, 1) := by decide +kernel
theorem dX8_losesOn_6 : decode cX8_losesOn 6 = .ok (.irem, 1) := by decide +kernel
theorem dX8_losesOn_7 : decode cX8_losesOn 7 = .ok (.ifCond .ne 7, 3) := by decide +kernel
theorem dX8_losesOn_10 : decode cX8_losesOn 10 = .ok (.iconst 1, 1) := by decide +kernel
theorem dX8_losesOn_11 : decode cX8_losesOn 11 = .ok (.goto 4, 3) := by decide +kernel
theorem dX8_losesOn_14 : decode cX8_losesOn 14 = .ok (.iconst 0, 1) := by decide +kernel
theorem dX8_losesOn_15 : decode cX8_losesOn 15 = .ok (.ireturn, 1) := by decide +kernel
theorem dX9_init_0 : decode cX9_init 0 = .ok (.aload_n 0, 1) := by decide +kernel
theorem dX9_init_1 : decode cX9_init 1 = .ok (.invokespecial 3, 3) := by decide +kernel
theorem dX9_init_4 : decode cX9_init 4 = .ok (.aload_n 0, 1) := by decide +kernel
theorem dX9_init_5 : decode cX9_init 5 = .ok (.new 9, 3) := by decide +kernel
theorem dX9_init_8 : decode cX9_init 8 = .ok (.dup, 1) := by decide +kernel
theorem dX9_init_9 : decode cX9_init 9 = .ok (.invokespecial 11, 3) := by decide +kernel
theorem dX9_init_12 : decode cX9_init 12 = .ok (.putfield 12, 3) := by decide +kernel
theorem dX9_init_15 : decode cX9_init 15 = .ok (.aload_n 0, 1) := by decide +kernel
theorem dX9_init_16 : decode cX9_init 16 = .ok (.bipush 21, 2) := by decide +kernel
theorem dX9_init_18 : decode cX9_init 18 = .ok (.newarray .int, 2) := by decide +kernel
theorem dX9_init_20 : decode cX9_init 20 = .ok (.putfield 18, 3) := by decide +kernel
theorem dX9_init_23 : decode cX9_init 23 = .ok (.aload_n 0, 1) := by decide +kernel
theorem dX9_init_24 : decode cX9_init 24 = .ok (.iconst 3, 1) := by decide +kernel
theorem dX9_init_25 : decode cX9_init 25 = .ok (.newarray .int, 2) := by decide +kernel
theorem dX9_init_27 : decode cX9_init 27 = .ok (.putfield 22, 3) := by decide +kernel
theorem dX9_init_30 : decode cX9_init 30 = .ok (.aload_n 0, 1) := by decide +kernel
theorem dX9_init_31 : decode cX9_init 31 = .ok (.aload_n 1, 1) := by decide +kernel
theorem dX9_init_32 : decode cX9_init 32 = .ok (.putfield 25, 3) := by decide +kernel
theorem dX9_init_35 : decode cX9_init 35 = .ok (.aload_n 0, 1) := by decide +kernel
theorem dX9_init_36 : decode cX9_init 36 = .ok (.aload_n 2, 1) := by decide +kernel
theorem dX9_init_37 : decode cX9_init 37 = .ok (.putfield 29, 3) := by decide +kernel
theorem dX9_init_40 : decode cX9_init 40 = .ok (.return_, 1) := by decide +kernel
theorem dX9_passDay_0 : decode cX9_passDay 0 = .ok (.aload_n 1, 1) := by decide +kernel
theorem dX9_passDay_1 : decode cX9_passDay 1 = .ok (.getfield 33, 3) := by decide +kernel
theorem dX9_passDay_4 : decode cX9_passDay 4 = .ok (.bipush 7, 2) := by decide +kernel
theorem dX9_passDay_6 : decode cX9_passDay 6 = .ok (.invokestatic 39, 3) := by decide +kernel
theorem dX9_passDay_9 : decode cX9_passDay 9 = .ok (.istore_n 3, 1) := by decide +kernel
theorem dX9_passDay_10 : decode cX9_passDay 10 = .ok (.iload_n 3, 1) := by decide +kernel
theorem dX9_passDay_11 : decode cX9_passDay 11 = .ok (.ifCond .ne 8, 3) := by decide +kernel
theorem dX9_passDay_14 : decode cX9_passDay 14 = .ok (.aload_n 0, 1) := by decide +kernel
theorem dX9_passDay_15 : decode cX9_passDay 15 = .ok (.aload_n 1, 1) := by decide +kernel
theorem dX9_passDay_16 : decode cX9_passDay 16 = .ok (.invokevirtual 45, 3) := by decide +kernel
theorem dX9_passDay_19 : decode cX9_passDay 19 = .ok (.iconst 0, 1) := by decide +kernel
theorem dX9_passDay_20 : decode cX9_passDay 20 = .ok (.istore 4, 2) := by decide +kernel
theorem dX9_passDay_22 : decode cX9_passDay 22 = .ok (.iload 4, 2) := by decide +kernel
theorem dX9_passDay_24 : decode cX9_passDay 24 = .ok (.iconst 3, 1) := by decide +kernel
theorem dX9_passDay_25 : decode cX9_passDay 25 = .ok (.if_icmp .ge 53, 3) := by decide +kernel
theorem dX9_passDay_28 : decode cX9_passDay 28 = .ok (.aload_n 0, 1) := by decide +kernel
theorem dX9_passDay_29 : decode cX9_passDay 29 = .ok (.getfield 25, 3) := by decide +kernel
theorem dX9_passDay_32 : decode cX9_passDay 32 = .ok (.getfield 49, 3) := by decide +kernel
theorem dX9_passDay_35 : decode cX9_passDay 35 = .ok (.getfield 55, 3) := by decide +kernel
theorem dX9_passDay_38 : decode cX9_passDay 38 = .ok (.iload 4, 2) := by decide +kernel
theorem dX9_passDay_40 : decode cX9_passDay 40 = .ok (.bipush 7, 2) := by decide +kernel
theorem dX9_passDay_42 : decode cX9_passDay 42 = .ok (.imul, 1) := by decide +kernel
theorem dX9_passDay_43 : decode cX9_passDay 43 = .ok (.iload_n 3, 1) := by decide +kernel
theorem dX9_passDay_44 : decode cX9_passDay 44 = .ok (.iadd, 1) := by decide +kernel
theorem dX9_passDay_45 : decode cX9_passDay 45 = .ok (.iaload, 1) := by decide +kernel
theorem dX9_passDay_46 : decode cX9_passDay 46 = .ok (.istore 5, 2) := by decide +kernel
theorem dX9_passDay_48 : decode cX9_passDay 48 = .ok (.aload_n 0, 1) := by decide +kernel
theorem dX9_passDay_49 : decode cX9_passDay 49 = .ok (.getfield 22, 3) := by decide +kernel
theorem dX9_passDay_52 : decode cX9_passDay 52 = .ok (.iload 4, 2) := by decide +kernel
theorem dX9_passDay_54 : decode cX9_passDay 54 = .ok (.iload_n 2, 1) := by decide +kernel
theorem dX9_passDay_55 : decode cX9_passDay 55 = .ok (.ifCond .eq 14, 3) := by decide +kernel
theorem dX9_passDay_58 : decode cX9_passDay 58 = .ok (.iload 5, 2) := by decide +kernel
theorem dX9_passDay_60 : decode cX9_passDay 60 = .ok (.iconst (-1), 1) := by decide +kernel
theorem dX9_passDay_61 : decode cX9_passDay 61 = .ok (.if_icmp .eq 8, 3) := by decide +kernel
theorem dX9_passDay_64 : decode cX9_passDay 64 = .ok (.iload 5, 2) := by decide +kernel
theorem dX9_passDay_66 : decode cX9_passDay 66 = .ok (.goto 5, 3) := by decide +kernel
theorem dX9_passDay_69 : decode cX9_passDay 69 = .ok (.ldc 60, 2) := by decide +kernel
theorem dX9_passDay_71 : decode cX9_passDay 71 = .ok (.iastore, 1) := by decide +kernel
theorem dX9_passDay_72 : decode cX9_passDay 72 = .ok (.iinc 4 1, 3) := by decide +kernel
theorem dX9_passDay_75 : decode cX9_passDay 75 = .ok (.goto (-53), 3) := by decide +kernel
theorem dX9_passDay_78 : decode cX9_passDay 78 = .ok (.iconst 0, 1) := by decide +kernel
theorem dX9_passDay_79 : decode cX9_passDay 79 = .ok (.istore 4, 2) := by decide +kernel
theorem dX9_passDay_81 : decode cX9_passDay 81 = .ok (.iload 4, 2) := by decide +kernel
theorem dX9_passDay_83 : decode cX9_passDay 83 = .ok (.aload_n 0, 1) := by decide +kernel
theorem dX9_passDay_84 : decode cX9_passDay 84 = .ok (.getfield 25, 3) := by decide +kernel
theorem dX9_passDay_87 : decode cX9_passDay 87 = .ok (.getfield 49, 3) := by decide +kernel
theorem dX9_passDay_90 : decode cX9_passDay 90 = .ok (.getfield 61, 3) := by decide +kernel
theorem dX9_passDay_93 : decode cX9_passDay 93 = .ok (.if_icmp .ge 17, 3) := by decide +kernel
theorem dX9_passDay_96 : decode cX9_passDay 96 = .ok (.aload_n 0, 1) := by decide +kernel
theorem dX9_passDay_97 : decode cX9_passDay 97 = .ok (.aload_n 1, 1) := by decide +kernel
theorem dX9_passDay_98 : decode cX9_passDay 98 = .ok (.iload 4, 2) := by decide +kernel
theorem dX9_passDay_100 : decode cX9_passDay 100 = .ok (.iload_n 3, 1) := by decide +kernel
theorem dX9_passDay_101 : decode cX9_passDay 101 = .ok (.invokevirtual 64, 3) := by decide +kernel
theorem dX9_passDay_104 : decode cX9_passDay 104 = .ok (.iinc 4 1, 3) := by decide +kernel
theorem dX9_passDay_107 : decode cX9_passDay 107 = .ok (.goto (-26), 3) := by decide +kernel
theorem dX9_passDay_110 : decode cX9_passDay 110 = .ok (.aload_n 1, 1) := by decide +kernel
theorem dX9_passDay_111 : decode cX9_passDay 111 = .ok (.dup, 1) := by decide +kernel
theorem dX9_passDay_112 : decode cX9_passDay 112 = .ok (.getfield 33, 3) := by decide +kernel
theorem dX9_passDay_115 : decode cX9_passDay 115 = .ok (.iconst 1, 1) := by decide +kernel
theorem dX9_passDay_116 : decode cX9_passDay 116 = .ok (.iadd, 1) := by decide +kernel
theorem dX9_passDay_117 : decode cX9_passDay 117 = .ok (.putfield 33, 3) := by decide +kernel
theorem dX9_passDay_120 : decode cX9_passDay 120 = .ok (.return_, 1) := by decide +kernel
theorem dX9_openChest_0 : decode cX9_openChest 0 = .ok (.aload_n 0, 1) := by decide +kernel
theorem dX9_openChest_1 : decode cX9_openChest 1 = .ok (.getfield 25, 3) := by decide +kernel
theorem dX9_openChest_4 : decode cX9_openChest 4 = .ok (.getfield 49, 3) := by decide +kernel
theorem dX9_openChest_7 : decode cX9_openChest 7 = .ok (.getfield 68, 3) := by decide +kernel
theorem dX9_openChest_10 : decode cX9_openChest 10 = .ok (.istore_n 2, 1) := by decide +kernel
theorem dX9_openChest_11 : decode cX9_openChest 11 = .ok (.iload_n 2, 1) := by decide +kernel
theorem dX9_openChest_12 : decode cX9_openChest 12 = .ok (.iconst (-1), 1) := by decide +kernel
theorem dX9_openChest_13 : decode cX9_openChest 13 = .ok (.if_icmp .eq 19, 3) := by decide +kernel
theorem dX9_openChest_16 : decode cX9_openChest 16 = .ok (.aload_n 0, 1) := by decide +kernel
theorem dX9_openChest_17 : decode cX9_openChest 17 = .ok (.getfield 25, 3) := by decide +kernel
theorem dX9_openChest_20 : decode cX9_openChest 20 = .ok (.getfield 49, 3) := by decide +kernel
theorem dX9_openChest_23 : decode cX9_openChest 23 = .ok (.getfield 71, 3) := by decide +kernel
theorem dX9_openChest_26 : decode cX9_openChest 26 = .ok (.iload_n 2, 1) := by decide +kernel
theorem dX9_openChest_27 : decode cX9_openChest 27 = .ok (.iaload, 1) := by decide +kernel
theorem dX9_openChest_28 : decode cX9_openChest 28 = .ok (.iconst 1, 1) := by decide +kernel
theorem dX9_openChest_29 : decode cX9_openChest 29 = .ok (.if_icmp .ge 4, 3) := by decide +kernel
theorem dX9_openChest_32 : decode cX9_openChest 32 = .ok (.return_, 1) := by decide +kernel
theorem dX9_openChest_33 : decode cX9_openChest 33 = .ok (.aload_n 0, 1) := by decide +kernel
theorem dX9_openChest_34 : decode cX9_openChest 34 = .ok (.getfield 25, 3) := by decide +kernel
theorem dX9_openChest_37 : decode cX9_openChest 37 = .ok (.getfield 49, 3) := by decide +kernel
theorem dX9_openChest_40 : decode cX9_openChest 40 = .ok (.getfield 71, 3) := by decide +kernel
theorem dX9_openChest_43 : decode cX9_openChest 43 = .ok (.iload_n 2, 1) := by decide +kernel
theorem dX9_openChest_44 : decode cX9_openChest 44 = .ok (.iaload, 1) := by decide +kernel
theorem dX9_openChest_45 : decode cX9_openChest 45 = .ok (.istore_n 3, 1) := by decide +kernel
theorem dX9_openChest_46 : decode cX9_openChest 46 = .ok (.aload_n 1, 1) := by decide +kernel
theorem dX9_openChest_47 : decode cX9_openChest 47 = .ok (.getfield 74, 3) := by decide +kernel
theorem dX9_openChest_50 : decode cX9_openChest 50 = .ok (.iload_n 3, 1) := by decide +kernel
theorem dX9_openChest_51 : decode cX9_openChest 51 = .ok (.idiv, 1) := by decide +kernel
theorem dX9_openChest_52 : decode cX9_openChest 52 = .ok (.istore 4, 2) := by decide +kernel
theorem dX9_openChest_54 : decode cX9_openChest 54 = .ok (.iload_n 2, 1) := by decide +kernel
theorem dX9_openChest_55 : decode cX9_openChest 55 = .ok (.bipush 7, 2) := by decide +kernel
theorem dX9_openChest_57 : decode cX9_openChest 57 = .ok (.imul, 1) := by decide +kernel
theorem dX9_openChest_58 : decode cX9_openChest 58 = .ok (.istore 5, 2) := by decide +kernel
theorem dX9_openChest_60 : decode cX9_openChest 60 = .ok (.aload_n 1, 1) := by decide +kernel
theorem dX9_openChest_61 : decode cX9_openChest 61 = .ok (.dup, 1) := by decide +kernel
theorem dX9_openChest_62 : decode cX9_openChest 62 = .ok (.getfield 74, 3) := by decide +kernel
theorem dX9_openChest_65 : decode cX9_openChest 65 = .ok (.iload 4, 2) := by decide +kernel
theorem dX9_openChest_67 : decode cX9_openChest 67 = .ok (.iload_n 3, 1) := by decide +kernel
theorem dX9_openChest_68 : decode cX9_openChest 68 = .ok (.imul, 1) := by decide +kernel
theorem dX9_openChest_69 : decode cX9_openChest 69 = .ok (.isub, 1) := by decide +kernel
theorem dX9_openChest_70 : decode cX9_openChest 70 = .ok (.putfield 74, 3) := by decide +kernel
theorem dX9_openChest_73 : decode cX9_openChest 73 = .ok (.aload_n 1, 1) := by decide +kernel
theorem dX9_openChest_74 : decode cX9_openChest 74 = .ok (.getfield 75, 3) := by decide +kernel
theorem dX9_openChest_77 : decode cX9_openChest 77 = .ok (.iload 5, 2) := by decide +kernel
theorem dX9_openChest_79 : decode cX9_openChest 79 = .ok (.bipush 6, 2) := by decide +kernel
theorem dX9_openChest_81 : decode cX9_openChest 81 = .ok (.iadd, 1) := by decide +kernel
theorem dX9_openChest_82 : decode cX9_openChest 82 = .ok (.dup2, 1) := by decide +kernel
theorem dX9_openChest_83 : decode cX9_openChest 83 = .ok (.iaload, 1) := by decide +kernel
theorem dX9_openChest_84 : decode cX9_openChest 84 = .ok (.iload 4, 2) := by decide +kernel
theorem dX9_openChest_86 : decode cX9_openChest 86 = .ok (.iload_n 3, 1) := by decide +kernel
theorem dX9_openChest_87 : decode cX9_openChest 87 = .ok (.imul, 1) := by decide +kernel
theorem dX9_openChest_88 : decode cX9_openChest 88 = .ok (.iadd, 1) := by decide +kernel
theorem dX9_openChest_89 : decode cX9_openChest 89 = .ok (.iastore, 1) := by decide +kernel
theorem dX9_openChest_90 : decode cX9_openChest 90 = .ok (.aload_n 1, 1) := by decide +kernel
theorem dX9_openChest_91 : decode cX9_openChest 91 = .ok (.getfield 75, 3) := by decide +kernel
theorem dX9_openChest_94 : decode cX9_openChest 94 = .ok (.iload 5, 2) := by decide +kernel
theorem dX9_openChest_96 : decode cX9_openChest 96 = .ok (.iconst 0, 1) := by decide +kernel
theorem dX9_openChest_97 : decode cX9_openChest 97 = .ok (.iadd, 1) := by decide +kernel
theorem dX9_openChest_98 : decode cX9_openChest 98 = .ok (.bipush 60, 2) := by decide +kernel
theorem dX9_openChest_100 : decode cX9_openChest 100 = .ok (.aload_n 1, 1) := by decide +kernel
theorem dX9_openChest_101 : decode cX9_openChest 101 = .ok (.getfield 75, 3) := by decide +kernel
theorem dX9_openChest_104 : decode cX9_openChest 104 = .ok (.iload 5, 2) := by decide +kernel
theorem dX9_openChest_106 : decode cX9_openChest 106 = .ok (.iconst 0, 1) := by decide +kernel
theorem dX9_openChest_107 : decode cX9_openChest 107 = .ok (.iadd, 1) := by decide +kernel
theorem dX9_openChest_108 : decode cX9_openChest 108 = .ok (.iaload, 1) := by decide +kernel
theorem dX9_openChest_109 : decode cX9_openChest 109 = .ok (.iload 4, 2) := by decide +kernel
theorem dX9_openChest_111 : decode cX9_openChest 111 = .ok (.iadd, 1) := by decide +kernel
theorem dX9_openChest_112 : decode cX9_openChest 112 = .ok (.invokestatic 78, 3) := by decide +kernel
theorem dX9_openChest_115 : decode cX9_openChest 115 = .ok (.iastore, 1) := by decide +kernel
theorem dX9_openChest_116 : decode cX9_openChest 116 = .ok (.return_, 1) := by decide +kernel
theorem dX9_serve_0 : decode cX9_serve 0 = .ok (.iload_n 2, 1) := by decide +kernel
theorem dX9_serve_1 : decode cX9_serve 1 = .ok (.bipush 7, 2) := by decide +kernel
theorem dX9_serve_3 : decode cX9_serve 3 = .ok (.imul, 1) := by decide +kernel
theorem dX9_serve_4 : decode cX9_serve 4 = .ok (.istore 4, 2) := by decide +kernel
theorem dX9_serve_6 : decode cX9_serve 6 = .ok (.aload_n 0, 1) := by decide +kernel
theorem dX9_serve_7 : decode cX9_serve 7 = .ok (.getfield 25, 3) := by decide +kernel
theorem dX9_serve_10 : decode cX9_serve 10 = .ok (.getfield 49, 3) := by decide +kernel
theorem dX9_serve_13 : decode cX9_serve 13 = .ok (.getfield 71, 3) := by decide +kernel
theorem dX9_serve_16 : decode cX9_serve 16 = .ok (.iload_n 2, 1) := by decide +kernel
theorem dX9_serve_17 : decode cX9_serve 17 = .ok (.iaload, 1) := by decide +kernel
theorem dX9_serve_18 : decode cX9_serve 18 = .ok (.istore 5, 2) := by decide +kernel
theorem dX9_serve_20 : decode cX9_serve 20 = .ok (.aload_n 1, 1) := by decide +kernel
theorem dX9_serve_21 : decode cX9_serve 21 = .ok (.getfield 75, 3) := by decide +kernel
theorem dX9_serve_24 : decode cX9_serve 24 = .ok (.iload 4, 2) := by decide +kernel
theorem dX9_serve_26 : decode cX9_serve 26 = .ok (.iconst 1, 1) := by decide +kernel
theorem dX9_serve_27 : decode cX9_serve 27 = .ok (.iadd, 1) := by decide +kernel
theorem dX9_serve_28 : decode cX9_serve 28 = .ok (.iaload, 1) := by decide +kernel
theorem dX9_serve_29 : decode cX9_serve 29 = .ok (.istore 6, 2) := by decide +kernel
theorem dX9_serve_31 : decode cX9_serve 31 = .ok (.aload_n 0, 1) := by decide +kernel
theorem dX9_serve_32 : decode cX9_serve 32 = .ok (.getfield 25, 3) := by decide +kernel
theorem dX9_serve_35 : decode cX9_serve 35 = .ok (.iload_n 2, 1) := by decide +kernel
theorem dX9_serve_36 : decode cX9_serve 36 = .ok (.iload_n 3, 1) := by decide +kernel
theorem dX9_serve_37 : decode cX9_serve 37 = .ok (.aload_n 1, 1) := by decide +kernel
theorem dX9_serve_38 : decode cX9_serve 38 = .ok (.getfield 75, 3) := by decide +kernel
theorem dX9_serve_41 : decode cX9_serve 41 = .ok (.iload 4, 2) := by decide +kernel
theorem dX9_serve_43 : decode cX9_serve 43 = .ok (.iconst 0, 1) := by decide +kernel
theorem dX9_serve_44 : decode cX9_serve 44 = .ok (.iadd, 1) := by decide +kernel
theorem dX9_serve_45 : decode cX9_serve 45 = .ok (.iaload, 1) := by decide +kernel
theorem dX9_serve_46 : decode cX9_serve 46 = .ok (.invokevirtual 81, 3) := by decide +kernel
theorem dX9_serve_49 : decode cX9_serve 49 = .ok (.istore 7, 2) := by decide +kernel
theorem dX9_serve_51 : decode cX9_serve 51 = .ok (.aload_n 1, 1) := by decide +kernel
theorem dX9_serve_52 : decode cX9_serve 52 = .ok (.getfield 85, 3) := by decide +kernel
theorem dX9_serve_55 : decode cX9_serve 55 = .ok (.iload_n 2, 1) := by decide +kernel
theorem dX9_serve_56 : decode cX9_serve 56 = .ok (.iaload, 1) := by decide +kernel
theorem dX9_serve_57 : decode cX9_serve 57 = .ok (.istore 8, 2) := by decide +kernel
theorem dX9_serve_59 : decode cX9_serve 59 = .ok (.aload_n 0, 1) := by decide +kernel
theorem dX9_serve_60 : decode cX9_serve 60 = .ok (.getfield 12, 3) := by decide +kernel
theorem dX9_serve_63 : decode cX9_serve 63 = .ok (.aload_n 0, 1) := by decide +kernel
theorem dX9_serve_64 : decode cX9_serve 64 = .ok (.getfield 25, 3) := by decide +kernel
theorem dX9_serve_67 : decode cX9_serve 67 = .ok (.iload_n 2, 1) := by decide +kernel
theorem dX9_serve_68 : decode cX9_serve 68 = .ok (.iload_n 3, 1) := by decide +kernel
theorem dX9_serve_69 : decode cX9_serve 69 = .ok (.invokevirtual 88, 3) := by decide +kernel
theorem dX9_serve_72 : decode cX9_serve 72 = .ok (.iload 8, 2) := by decide +kernel
theorem dX9_serve_74 : decode cX9_serve 74 = .ok (.iconst 3, 1) := by decide +kernel
theorem dX9_serve_75 : decode cX9_serve 75 = .ok (.if_icmp .ne 21, 3) := by decide +kernel
theorem dX9_serve_78 : decode cX9_serve 78 = .ok (.aload_n 0, 1) := by decide +kernel
theorem dX9_serve_79 : decode cX9_serve 79 = .ok (.getfield 29, 3) := by decide +kernel
theorem dX9_serve_82 : decode cX9_serve 82 = .ok (.iload_n 2, 1) := by decide +kernel
theorem dX9_serve_83 : decode cX9_serve 83 = .ok (.iload_n 3, 1) := by decide +kernel
theorem dX9_serve_84 : decode cX9_serve 84 = .ok (.iload 7, 2) := by decide +kernel
theorem dX9_serve_86 : decode cX9_serve 86 = .ok (.iload 6, 2) := by decide +kernel
theorem dX9_serve_88 : decode cX9_serve 88 = .ok (.bipush 7, 2) := by decide +kernel
theorem dX9_serve_90 : decode cX9_serve 90 = .ok (.invokevirtual 92, 3) := by decide +kernel
theorem dX9_serve_93 : decode cX9_serve 93 = .ok (.goto 16, 3) := by decide +kernel
theorem dX9_serve_96 : decode cX9_serve 96 = .ok (.aload_n 0, 1) := by decide +kernel
theorem dX9_serve_97 : decode cX9_serve 97 = .ok (.getfield 12, 3) := by decide +kernel
theorem dX9_serve_100 : decode cX9_serve 100 = .ok (.iload 8, 2) := by decide +kernel
theorem dX9_serve_102 : decode cX9_serve 102 = .ok (.iload 7, 2) := by decide +kernel
theorem dX9_serve_104 : decode cX9_serve 104 = .ok (.iload 6, 2) := by decide +kernel
theorem dX9_serve_106 : decode cX9_serve 106 = .ok (.invokevirtual 98, 3) := by decide +kernel
theorem dX9_serve_109 : decode cX9_serve 109 = .ok (.istore 9, 2) := by decide +kernel
theorem dX9_serve_111 : decode cX9_serve 111 = .ok (.aload_n 0, 1) := by decide +kernel
theorem dX9_serve_112 : decode cX9_serve 112 = .ok (.aload_n 0, 1) := by decide +kernel
theorem dX9_serve_113 : decode cX9_serve 113 = .ok (.getfield 12, 3) := by decide +kernel
theorem dX9_serve_116 : decode cX9_serve 116 = .ok (.getfield 101, 3) := by decide +kernel
theorem dX9_serve_119 : decode cX9_serve 119 = .ok (.iload 9, 2) := by decide +kernel
theorem dX9_serve_121 : decode cX9_serve 121 = .ok (.iconst 3, 1) := by decide +kernel
theorem dX9_serve_122 : decode cX9_serve 122 = .ok (.iand, 1) := by decide +kernel
theorem dX9_serve_123 : decode cX9_serve 123 = .ok (.iload 5, 2) := by decide +kernel
theorem dX9_serve_125 : decode cX9_serve 125 = .ok (.iload_n 3, 1) := by decide +kernel
theorem dX9_serve_126 : decode cX9_serve 126 = .ok (.invokevirtual 104, 3) := by decide +kernel
theorem dX9_serve_129 : decode cX9_serve 129 = .ok (.istore 10, 2) := by decide +kernel
theorem dX9_serve_131 : decode cX9_serve 131 = .ok (.iload 9, 2) := by decide +kernel
theorem dX9_serve_133 : decode cX9_serve 133 = .ok (.iconst 2, 1) := by decide +kernel
theorem dX9_serve_134 : decode cX9_serve 134 = .ok (.ishr, 1) := by decide +kernel
theorem dX9_serve_135 : decode cX9_serve 135 = .ok (.iconst 3, 1) := by decide +kernel
theorem dX9_serve_136 : decode cX9_serve 136 = .ok (.iand, 1) := by decide +kernel
theorem dX9_serve_137 : decode cX9_serve 137 = .ok (.istore 11, 2) := by decide +kernel
theorem dX9_serve_139 : decode cX9_serve 139 = .ok (.aload_n 0, 1) := by decide +kernel
theorem dX9_serve_140 : decode cX9_serve 140 = .ok (.aload_n 0, 1) := by decide +kernel
theorem dX9_serve_141 : decode cX9_serve 141 = .ok (.getfield 25, 3) := by decide +kernel
theorem dX9_serve_144 : decode cX9_serve 144 = .ok (.getfield 49, 3) := by decide +kernel
theorem dX9_serve_147 : decode cX9_serve 147 = .ok (.getfield 108, 3) := by decide +kernel
theorem dX9_serve_150 : decode cX9_serve 150 = .ok (.iload 9, 2) := by decide +kernel
theorem dX9_serve_152 : decode cX9_serve 152 = .ok (.iconst 4, 1) := by decide +kernel
theorem dX9_serve_153 : decode cX9_serve 153 = .ok (.ishr, 1) := by decide +kernel
theorem dX9_serve_154 : decode cX9_serve 154 = .ok (.iload 5, 2) := by decide +kernel
theorem dX9_serve_156 : decode cX9_serve 156 = .ok (.iload_n 3, 1) := by decide +kernel
theorem dX9_serve_157 : decode cX9_serve 157 = .ok (.invokevirtual 104, 3) := by decide +kernel
theorem dX9_serve_160 : decode cX9_serve 160 = .ok (.istore 12, 2) := by decide +kernel
theorem dX9_serve_162 : decode cX9_serve 162 = .ok (.aload_n 0, 1) := by decide +kernel
theorem dX9_serve_163 : decode cX9_serve 163 = .ok (.getfield 12, 3) := by decide +kernel
theorem dX9_serve_166 : decode cX9_serve 166 = .ok (.iload 10, 2) := by decide +kernel
theorem dX9_serve_168 : decode cX9_serve 168 = .ok (.iload 12, 2) := by decide +kernel
theorem dX9_serve_170 : decode cX9_serve 170 = .ok (.invokevirtual 111, 3) := by decide +kernel
theorem dX9_serve_173 : decode cX9_serve 173 = .ok (.istore 13, 2) := by decide +kernel
theorem dX9_serve_175 : decode cX9_serve 175 = .ok (.aload_n 1, 1) := by decide +kernel
theorem dX9_serve_176 : decode cX9_serve 176 = .ok (.dup, 1) := by decide +kernel
theorem dX9_serve_177 : decode cX9_serve 177 = .ok (.getfield 114, 3) := by decide +kernel
theorem dX9_serve_180 : decode cX9_serve 180 = .ok (.iload 5, 2) := by decide +kernel
theorem dX9_serve_182 : decode cX9_serve 182 = .ok (.iload 10, 2) := by decide +kernel
theorem dX9_serve_184 : decode cX9_serve 184 = .ok (.iload 12, 2) := by decide +kernel
theorem dX9_serve_186 : decode cX9_serve 186 = .ok (.iadd, 1) := by decide +kernel
theorem dX9_serve_187 : decode cX9_serve 187 = .ok (.imul, 1) := by decide +kernel
theorem dX9_serve_188 : decode cX9_serve 188 = .ok (.iadd, 1) := by decide +kernel
theorem dX9_serve_189 : decode cX9_serve 189 = .ok (.putfield 114, 3) := by decide +kernel
theorem dX9_serve_192 : decode cX9_serve 192 = .ok (.aload_n 1, 1) := by decide +kernel
theorem dX9_serve_193 : decode cX9_serve 193 = .ok (.dup, 1) := by decide +kernel
theorem dX9_serve_194 : decode cX9_serve 194 = .ok (.getfield 117, 3) := by decide +kernel
theorem dX9_serve_197 : decode cX9_serve 197 = .ok (.iload 5, 2) := by decide +kernel
theorem dX9_serve_199 : decode cX9_serve 199 = .ok (.iload 7, 2) := by decide +kernel
theorem dX9_serve_201 : decode cX9_serve 201 = .ok (.iload 13, 2) := by decide +kernel
theorem dX9_serve_203 : decode cX9_serve 203 = .ok (.isub, 1) := by decide +kernel
theorem dX9_serve_204 : decode cX9_serve 204 = .ok (.imul, 1) := by decide +kernel
theorem dX9_serve_205 : decode cX9_serve 205 = .ok (.i2l, 1) := by decide +kernel
theorem dX9_serve_206 : decode cX9_serve 206 = .ok (.ladd, 1) := by decide +kernel
theorem dX9_serve_207 : decode cX9_serve 207 = .ok (.putfield 117, 3) := by decide +kernel
theorem dX9_serve_210 : decode cX9_serve 210 = .ok (.aload_n 1, 1) := by decide +kernel
theorem dX9_serve_211 : decode cX9_serve 211 = .ok (.getfield 75, 3) := by decide +kernel
theorem dX9_serve_214 : decode cX9_serve 214 = .ok (.iload 4, 2) := by decide +kernel
theorem dX9_serve_216 : decode cX9_serve 216 = .ok (.iconst 2, 1) := by decide +kernel
theorem dX9_serve_217 : decode cX9_serve 217 = .ok (.iadd, 1) := by decide +kernel
theorem dX9_serve_218 : decode cX9_serve 218 = .ok (.dup2, 1) := by decide +kernel
theorem dX9_serve_219 : decode cX9_serve 219 = .ok (.iaload, 1) := by decide +kernel
theorem dX9_serve_220 : decode cX9_serve 220 = .ok (.iload 5, 2) := by decide +kernel
theorem dX9_serve_222 : decode cX9_serve 222 = .ok (.iload 13, 2) := by decide +kernel
theorem dX9_serve_224 : decode cX9_serve 224 = .ok (.imul, 1) := by decide +kernel
theorem dX9_serve_225 : decode cX9_serve 225 = .ok (.iadd, 1) := by decide +kernel
theorem dX9_serve_226 : decode cX9_serve 226 = .ok (.iastore, 1) := by decide +kernel
theorem dX9_serve_227 : decode cX9_serve 227 = .ok (.aload_n 1, 1) := by decide +kernel
theorem dX9_serve_228 : decode cX9_serve 228 = .ok (.getfield 75, 3) := by decide +kernel
theorem dX9_serve_231 : decode cX9_serve 231 = .ok (.iload 4, 2) := by decide +kernel
theorem dX9_serve_233 : decode cX9_serve 233 = .ok (.iconst 4, 1) := by decide +kernel
theorem dX9_serve_234 : decode cX9_serve 234 = .ok (.iadd, 1) := by decide +kernel
theorem dX9_serve_235 : decode cX9_serve 235 = .ok (.dup2, 1) := by decide +kernel
theorem dX9_serve_236 : decode cX9_serve 236 = .ok (.iaload, 1) := by decide +kernel
theorem dX9_serve_237 : decode cX9_serve 237 = .ok (.iload 5, 2) := by decide +kernel
theorem dX9_serve_239 : decode cX9_serve 239 = .ok (.aload_n 0, 1) := by decide +kernel
theorem dX9_serve_240 : decode cX9_serve 240 = .ok (.getfield 12, 3) := by decide +kernel
theorem dX9_serve_243 : decode cX9_serve 243 = .ok (.getfield 121, 3) := by decide +kernel
theorem dX9_serve_246 : decode cX9_serve 246 = .ok (.imul, 1) := by decide +kernel
theorem dX9_serve_247 : decode cX9_serve 247 = .ok (.iload 10, 2) := by decide +kernel
theorem dX9_serve_249 : decode cX9_serve 249 = .ok (.iload 11, 2) := by decide +kernel
theorem dX9_serve_251 : decode cX9_serve 251 = .ok (.iadd, 1) := by decide +kernel
theorem dX9_serve_252 : decode cX9_serve 252 = .ok (.imul, 1) := by decide +kernel
theorem dX9_serve_253 : decode cX9_serve 253 = .ok (.iadd, 1) := by decide +kernel
theorem dX9_serve_254 : decode cX9_serve 254 = .ok (.iastore, 1) := by decide +kernel
theorem dX9_serve_255 : decode cX9_serve 255 = .ok (.aload_n 0, 1) := by decide +kernel
theorem dX9_serve_256 : decode cX9_serve 256 = .ok (.aload_n 1, 1) := by decide +kernel
theorem dX9_serve_257 : decode cX9_serve 257 = .ok (.iload_n 2, 1) := by decide +kernel
theorem dX9_serve_258 : decode cX9_serve 258 = .ok (.iload_n 3, 1) := by decide +kernel
theorem dX9_serve_259 : decode cX9_serve 259 = .ok (.iload 7, 2) := by decide +kernel
theorem dX9_serve_261 : decode cX9_serve 261 = .ok (.iload 13, 2) := by decide +kernel
theorem dX9_serve_263 : decode cX9_serve 263 = .ok (.isub, 1) := by decide +kernel
theorem dX9_serve_264 : decode cX9_serve 264 = .ok (.iload 6, 2) := by decide +kernel
theorem dX9_serve_266 : decode cX9_serve 266 = .ok (.iload 11, 2) := by decide +kernel
theorem dX9_serve_268 : decode cX9_serve 268 = .ok (.isub, 1) := by decide +kernel
theorem dX9_serve_269 : decode cX9_serve 269 = .ok (.iload 12, 2) := by decide +kernel
theorem dX9_serve_271 : decode cX9_serve 271 = .ok (.iadd, 1) := by decide +kernel
theorem dX9_serve_272 : decode cX9_serve 272 = .ok (.invokevirtual 124, 3) := by decide +kernel
theorem dX9_serve_275 : decode cX9_serve 275 = .ok (.return_, 1) := by decide +kernel
theorem dX9_buy_0 : decode cX9_buy 0 = .ok (.iload_n 1, 1) := by decide +kernel
theorem dX9_buy_1 : decode cX9_buy 1 = .ok (.iconst (-1), 1) := by decide +kernel
theorem dX9_buy_2 : decode cX9_buy 2 = .ok (.if_icmp .eq 8, 3) := by decide +kernel
theorem dX9_buy_5 : decode cX9_buy 5 = .ok (.iload_n 3, 1) := by decide +kernel
theorem dX9_buy_6 : decode cX9_buy 6 = .ok (.iconst 1, 1) := by decide +kernel
theorem dX9_buy_7 : decode cX9_buy 7 = .ok (.if_icmp .ge 5, 3) := by decide +kernel
theorem dX9_buy_10 : decode cX9_buy 10 = .ok (.iconst 0, 1) := by decide +kernel
theorem dX9_buy_11 : decode cX9_buy 11 = .ok (.ireturn, 1) := by decide +kernel
theorem dX9_buy_12 : decode cX9_buy 12 = .ok (.iload_n 2, 1) := by decide +kernel
theorem dX9_buy_13 : decode cX9_buy 13 = .ok (.aload_n 0, 1) := by decide +kernel
theorem dX9_buy_14 : decode cX9_buy 14 = .ok (.getfield 22, 3) := by decide +kernel
theorem dX9_buy_17 : decode cX9_buy 17 = .ok (.iload_n 1, 1) := by decide +kernel
theorem dX9_buy_18 : decode cX9_buy 18 = .ok (.iaload, 1) := by decide +kernel
theorem dX9_buy_19 : decode cX9_buy 19 = .ok (.iload_n 3, 1) := by decide +kernel
theorem dX9_buy_20 : decode cX9_buy 20 = .ok (.idiv, 1) := by decide +kernel
theorem dX9_buy_21 : decode cX9_buy 21 = .ok (.invokestatic 78, 3) := by decide +kernel
theorem dX9_buy_24 : decode cX9_buy 24 = .ok (.istore 5, 2) := by decide +kernel
theorem dX9_buy_26 : decode cX9_buy 26 = .ok (.aload_n 0, 1) := by decide +kernel
theorem dX9_buy_27 : decode cX9_buy 27 = .ok (.getfield 22, 3) := by decide +kernel
theorem dX9_buy_30 : decode cX9_buy 30 = .ok (.iload_n 1, 1) := by decide +kernel
theorem dX9_buy_31 : decode cX9_buy 31 = .ok (.dup2, 1) := by decide +kernel
theorem dX9_buy_32 : decode cX9_buy 32 = .ok (.iaload, 1) := by decide +kernel
theorem dX9_buy_33 : decode cX9_buy 33 = .ok (.iload 5, 2) := by decide +kernel
theorem dX9_buy_35 : decode cX9_buy 35 = .ok (.iload_n 3, 1) := by decide +kernel
theorem dX9_buy_36 : decode cX9_buy 36 = .ok (.imul, 1) := by decide +kernel
theorem dX9_buy_37 : decode cX9_buy 37 = .ok (.isub, 1) := by decide +kernel
theorem dX9_buy_38 : decode cX9_buy 38 = .ok (.iastore, 1) := by decide +kernel
theorem dX9_buy_39 : decode cX9_buy 39 = .ok (.aload_n 0, 1) := by decide +kernel
theorem dX9_buy_40 : decode cX9_buy 40 = .ok (.getfield 18, 3) := by decide +kernel
theorem dX9_buy_43 : decode cX9_buy 43 = .ok (.iload_n 1, 1) := by decide +kernel
theorem dX9_buy_44 : decode cX9_buy 44 = .ok (.bipush 7, 2) := by decide +kernel
theorem dX9_buy_46 : decode cX9_buy 46 = .ok (.imul, 1) := by decide +kernel
theorem dX9_buy_47 : decode cX9_buy 47 = .ok (.iload 4, 2) := by decide +kernel
theorem dX9_buy_49 : decode cX9_buy 49 = .ok (.iadd, 1) := by decide +kernel
theorem dX9_buy_50 : decode cX9_buy 50 = .ok (.dup2, 1) := by decide +kernel
theorem dX9_buy_51 : decode cX9_buy 51 = .ok (.iaload, 1) := by decide +kernel
theorem dX9_buy_52 : decode cX9_buy 52 = .ok (.iload 5, 2) := by decide +kernel
theorem dX9_buy_54 : decode cX9_buy 54 = .ok (.iload_n 3, 1) := by decide +kernel
theorem dX9_buy_55 : decode cX9_buy 55 = .ok (.imul, 1) := by decide +kernel
theorem dX9_buy_56 : decode cX9_buy 56 = .ok (.iadd, 1) := by decide +kernel
theorem dX9_buy_57 : decode cX9_buy 57 = .ok (.iastore, 1) := by decide +kernel
theorem dX9_buy_58 : decode cX9_buy 58 = .ok (.iload 5, 2) := by decide +kernel
theorem dX9_buy_60 : decode cX9_buy 60 = .ok (.ireturn, 1) := by decide +kernel
theorem dX9_sleep_0 : decode cX9_sleep 0 = .ok (.iload_n 2, 1) := by decide +kernel
theorem dX9_sleep_1 : decode cX9_sleep 1 = .ok (.bipush 7, 2) := by decide +kernel
theorem dX9_sleep_3 : decode cX9_sleep 3 = .ok (.imul, 1) := by decide +kernel
theorem dX9_sleep_4 : decode cX9_sleep 4 = .ok (.istore 6, 2) := by decide +kernel
theorem dX9_sleep_6 : decode cX9_sleep 6 = .ok (.aload_n 0, 1) := by decide +kernel
theorem dX9_sleep_7 : decode cX9_sleep 7 = .ok (.getfield 25, 3) := by decide +kernel
theorem dX9_sleep_10 : decode cX9_sleep 10 = .ok (.getfield 49, 3) := by decide +kernel
theorem dX9_sleep_13 : decode cX9_sleep 13 = .ok (.getfield 71, 3) := by decide +kernel
theorem dX9_sleep_16 : decode cX9_sleep 16 = .ok (.iload_n 2, 1) := by decide +kernel
theorem dX9_sleep_17 : decode cX9_sleep 17 = .ok (.iaload, 1) := by decide +kernel
theorem dX9_sleep_18 : decode cX9_sleep 18 = .ok (.istore 7, 2) := by decide +kernel
theorem dX9_sleep_20 : decode cX9_sleep 20 = .ok (.iload 7, 2) := by decide +kernel
theorem dX9_sleep_22 : decode cX9_sleep 22 = .ok (.iload 4, 2) := by decide +kernel
theorem dX9_sleep_24 : decode cX9_sleep 24 = .ok (.aload_n 0, 1) := by decide +kernel
theorem dX9_sleep_25 : decode cX9_sleep 25 = .ok (.getfield 25, 3) := by decide +kernel
theorem dX9_sleep_28 : decode cX9_sleep 28 = .ok (.getfield 128, 3) := by decide +kernel
theorem dX9_sleep_31 : decode cX9_sleep 31 = .ok (.iload_n 3, 1) := by decide +kernel
theorem dX9_sleep_32 : decode cX9_sleep 32 = .ok (.iaload, 1) := by decide +kernel
theorem dX9_sleep_33 : decode cX9_sleep 33 = .ok (.invokestatic 131, 3) := by decide +kernel
theorem dX9_sleep_36 : decode cX9_sleep 36 = .ok (.imul, 1) := by decide +kernel
theorem dX9_sleep_37 : decode cX9_sleep 37 = .ok (.istore 8, 2) := by decide +kernel
theorem dX9_sleep_39 : decode cX9_sleep 39 = .ok (.aload_n 0, 1) := by decide +kernel
theorem dX9_sleep_40 : decode cX9_sleep 40 = .ok (.getfield 25, 3) := by decide +kernel
theorem dX9_sleep_43 : decode cX9_sleep 43 = .ok (.getfield 134, 3) := by decide +kernel
theorem dX9_sleep_46 : decode cX9_sleep 46 = .ok (.iload 5, 2) := by decide +kernel
theorem dX9_sleep_48 : decode cX9_sleep 48 = .ok (.iaload, 1) := by decide +kernel
theorem dX9_sleep_49 : decode cX9_sleep 49 = .ok (.istore 9, 2) := by decide +kernel
theorem dX9_sleep_51 : decode cX9_sleep 51 = .ok (.aload_n 1, 1) := by decide +kernel
theorem dX9_sleep_52 : decode cX9_sleep 52 = .ok (.dup, 1) := by decide +kernel
theorem dX9_sleep_53 : decode cX9_sleep 53 = .ok (.getfield 74, 3) := by decide +kernel
theorem dX9_sleep_56 : decode cX9_sleep 56 = .ok (.iload 8, 2) := by decide +kernel
theorem dX9_sleep_58 : decode cX9_sleep 58 = .ok (.iadd, 1) := by decide +kernel
theorem dX9_sleep_59 : decode cX9_sleep 59 = .ok (.putfield 74, 3) := by decide +kernel
theorem dX9_sleep_62 : decode cX9_sleep 62 = .ok (.aload_n 1, 1) := by decide +kernel
theorem dX9_sleep_63 : decode cX9_sleep 63 = .ok (.getfield 75, 3) := by decide +kernel
theorem dX9_sleep_66 : decode cX9_sleep 66 = .ok (.iload 6, 2) := by decide +kernel
theorem dX9_sleep_68 : decode cX9_sleep 68 = .ok (.iconst 3, 1) := by decide +kernel
theorem dX9_sleep_69 : decode cX9_sleep 69 = .ok (.iadd, 1) := by decide +kernel
theorem dX9_sleep_70 : decode cX9_sleep 70 = .ok (.dup2, 1) := by decide +kernel
theorem dX9_sleep_71 : decode cX9_sleep 71 = .ok (.iaload, 1) := by decide +kernel
theorem dX9_sleep_72 : decode cX9_sleep 72 = .ok (.iload 8, 2) := by decide +kernel
theorem dX9_sleep_74 : decode cX9_sleep 74 = .ok (.iadd, 1) := by decide +kernel
theorem dX9_sleep_75 : decode cX9_sleep 75 = .ok (.iastore, 1) := by decide +kernel
theorem dX9_sleep_76 : decode cX9_sleep 76 = .ok (.aload_n 1, 1) := by decide +kernel
theorem dX9_sleep_77 : decode cX9_sleep 77 = .ok (.getfield 75, 3) := by decide +kernel
theorem dX9_sleep_80 : decode cX9_sleep 80 = .ok (.iload 6, 2) := by decide +kernel
theorem dX9_sleep_82 : decode cX9_sleep 82 = .ok (.iconst 5, 1) := by decide +kernel
theorem dX9_sleep_83 : decode cX9_sleep 83 = .ok (.iadd, 1) := by decide +kernel
theorem dX9_sleep_84 : decode cX9_sleep 84 = .ok (.dup2, 1) := by decide +kernel
theorem dX9_sleep_85 : decode cX9_sleep 85 = .ok (.iaload, 1) := by decide +kernel
theorem dX9_sleep_86 : decode cX9_sleep 86 = .ok (.iload 7, 2) := by decide +kernel
theorem dX9_sleep_88 : decode cX9_sleep 88 = .ok (.iload 5, 2) := by decide +kernel
theorem dX9_sleep_90 : decode cX9_sleep 90 = .ok (.iload 9, 2) := by decide +kernel
theorem dX9_sleep_92 : decode cX9_sleep 92 = .ok (.isub, 1) := by decide +kernel
theorem dX9_sleep_93 : decode cX9_sleep 93 = .ok (.imul, 1) := by decide +kernel
theorem dX9_sleep_94 : decode cX9_sleep 94 = .ok (.iadd, 1) := by decide +kernel
theorem dX9_sleep_95 : decode cX9_sleep 95 = .ok (.iastore, 1) := by decide +kernel
theorem dX9_sleep_96 : decode cX9_sleep 96 = .ok (.aload_n 1, 1) := by decide +kernel
theorem dX9_sleep_97 : decode cX9_sleep 97 = .ok (.getfield 75, 3) := by decide +kernel
theorem dX9_sleep_100 : decode cX9_sleep 100 = .ok (.iload 6, 2) := by decide +kernel
theorem dX9_sleep_102 : decode cX9_sleep 102 = .ok (.iconst 0, 1) := by decide +kernel
theorem dX9_sleep_103 : decode cX9_sleep 103 = .ok (.iadd, 1) := by decide +kernel
theorem dX9_sleep_104 : decode cX9_sleep 104 = .ok (.aload_n 0, 1) := by decide +kernel
theorem dX9_sleep_105 : decode cX9_sleep 105 = .ok (.getfield 25, 3) := by decide +kernel
theorem dX9_sleep_108 : decode cX9_sleep 108 = .ok (.iload 4, 2) := by decide +kernel
theorem dX9_sleep_110 : decode cX9_sleep 110 = .ok (.iload 5, 2) := by decide +kernel
theorem dX9_sleep_112 : decode cX9_sleep 112 = .ok (.iload_n 3, 1) := by decide +kernel
theorem dX9_sleep_113 : decode cX9_sleep 113 = .ok (.invokevirtual 137, 3) := by decide +kernel
theorem dX9_sleep_116 : decode cX9_sleep 116 = .ok (.iastore, 1) := by decide +kernel
theorem dX9_sleep_117 : decode cX9_sleep 117 = .ok (.aload_n 1, 1) := by decide +kernel
theorem dX9_sleep_118 : decode cX9_sleep 118 = .ok (.getfield 75, 3) := by decide +kernel
theorem dX9_sleep_121 : decode cX9_sleep 121 = .ok (.iload 6, 2) := by decide +kernel
theorem dX9_sleep_123 : decode cX9_sleep 123 = .ok (.iconst 1, 1) := by decide +kernel
theorem dX9_sleep_124 : decode cX9_sleep 124 = .ok (.iadd, 1) := by decide +kernel
theorem dX9_sleep_125 : decode cX9_sleep 125 = .ok (.iload 9, 2) := by decide +kernel
theorem dX9_sleep_127 : decode cX9_sleep 127 = .ok (.iastore, 1) := by decide +kernel
theorem dX9_sleep_128 : decode cX9_sleep 128 = .ok (.return_, 1) := by decide +kernel
theorem dX10_init_0 : decode cX10_init 0 = .ok (.aload_n 0, 1) := by decide +kernel
theorem dX10_init_1 : decode cX10_init 1 = .ok (.invokespecial 3, 3) := by decide +kernel
theorem dX10_init_4 : decode cX10_init 4 = .ok (.aload_n 0, 1) := by decide +kernel
theorem dX10_init_5 : decode cX10_init 5 = .ok (.new 9, 3) := by decide +kernel
theorem dX10_init_8 : decode cX10_init 8 = .ok (.dup, 1) := by decide +kernel
theorem dX10_init_9 : decode cX10_init 9 = .ok (.invokespecial 11, 3) := by decide +kernel
theorem dX10_init_12 : decode cX10_init 12 = .ok (.putfield 12, 3) := by decide +kernel
theorem dX10_init_15 : decode cX10_init 15 = .ok (.aload_n 0, 1) := by decide +kernel
theorem dX10_init_16 : decode cX10_init 16 = .ok (.new 16, 3) := by decide +kernel
theorem dX10_init_19 : decode cX10_init 19 = .ok (.dup, 1) := by decide +kernel
theorem dX10_init_20 : decode cX10_init 20 = .ok (.aload_n 0, 1) := by decide +kernel
theorem dX10_init_21 : decode cX10_init 21 = .ok (.getfield 12, 3) := by decide +kernel
theorem dX10_init_24 : decode cX10_init 24 = .ok (.invokespecial 18, 3) := by decide +kernel
theorem dX10_init_27 : decode cX10_init 27 = .ok (.putfield 21, 3) := by decide +kernel
theorem dX10_init_30 : decode cX10_init 30 = .ok (.aload_n 0, 1) := by decide +kernel
theorem dX10_init_31 : decode cX10_init 31 = .ok (.new 25, 3) := by decide +kernel
theorem dX10_init_34 : decode cX10_init 34 = .ok (.dup, 1) := by decide +kernel
theorem dX10_init_35 : decode cX10_init 35 = .ok (.new 27, 3) := by decide +kernel
theorem dX10_init_38 : decode cX10_init 38 = .ok (.dup, 1) := by decide +kernel
theorem dX10_init_39 : decode cX10_init 39 = .ok (.invokespecial 29, 3) := by decide +kernel
theorem dX10_init_42 : decode cX10_init 42 = .ok (.invokespecial 30, 3) := by decide +kernel
theorem dX10_init_45 : decode cX10_init 45 = .ok (.putfield 33, 3) := by decide +kernel
theorem dX10_init_48 : decode cX10_init 48 = .ok (.aload_n 0, 1) := by decide +kernel
theorem dX10_init_49 : decode cX10_init 49 = .ok (.new 27, 3) := by decide +kernel
theorem dX10_init_52 : decode cX10_init 52 = .ok (.dup, 1) := by decide +kernel
theorem dX10_init_53 : decode cX10_init 53 = .ok (.invokespecial 29, 3) := by decide +kernel
theorem dX10_init_56 : decode cX10_init 56 = .ok (.putfield 37, 3) := by decide +kernel
theorem dX10_init_59 : decode cX10_init 59 = .ok (.aload_n 0, 1) := by decide +kernel
theorem dX10_init_60 : decode cX10_init 60 = .ok (.new 41, 3) := by decide +kernel
theorem dX10_init_63 : decode cX10_init 63 = .ok (.dup, 1) := by decide +kernel
theorem dX10_init_64 : decode cX10_init 64 = .ok (.aload_n 0, 1) := by decide +kernel
theorem dX10_init_65 : decode cX10_init 65 = .ok (.getfield 33, 3) := by decide +kernel
theorem dX10_init_68 : decode cX10_init 68 = .ok (.invokespecial 43, 3) := by decide +kernel
theorem dX10_init_71 : decode cX10_init 71 = .ok (.putfield 46, 3) := by decide +kernel
theorem dX10_init_74 : decode cX10_init 74 = .ok (.aload_n 0, 1) := by decide +kernel
theorem dX10_init_75 : decode cX10_init 75 = .ok (.new 50, 3) := by decide +kernel
theorem dX10_init_78 : decode cX10_init 78 = .ok (.dup, 1) := by decide +kernel
theorem dX10_init_79 : decode cX10_init 79 = .ok (.aload_n 0, 1) := by decide +kernel
theorem dX10_init_80 : decode cX10_init 80 = .ok (.getfield 33, 3) := by decide +kernel
theorem dX10_init_83 : decode cX10_init 83 = .ok (.aload_n 0, 1) := by decide +kernel
theorem dX10_init_84 : decode cX10_init 84 = .ok (.getfield 46, 3) := by decide +kernel
theorem dX10_init_87 : decode cX10_init 87 = .ok (.invokespecial 52, 3) := by decide +kernel
theorem dX10_init_90 : decode cX10_init 90 = .ok (.putfield 55, 3) := by decide +kernel
theorem dX10_init_93 : decode cX10_init 93 = .ok (.aload_n 0, 1) := by decide +kernel
theorem dX10_init_94 : decode cX10_init 94 = .ok (.new 59, 3) := by decide +kernel
theorem dX10_init_97 : decode cX10_init 97 = .ok (.dup, 1) := by decide +kernel
theorem dX10_init_98 : decode cX10_init 98 = .ok (.invokespecial 61, 3) := by decide +kernel
theorem dX10_init_101 : decode cX10_init 101 = .ok (.putfield 62, 3) := by decide +kernel
theorem dX10_init_104 : decode cX10_init 104 = .ok (.aload_n 0, 1) := by decide +kernel
theorem dX10_init_105 : decode cX10_init 105 = .ok (.new 59, 3) := by decide +kernel
theorem dX10_init_108 : decode cX10_init 108 = .ok (.dup, 1) := by decide +kernel
theorem dX10_init_109 : decode cX10_init 109 = .ok (.invokespecial 61, 3) := by decide +kernel
theorem dX10_init_112 : decode cX10_init 112 = .ok (.putfield 66, 3) := by decide +kernel
theorem dX10_init_115 : decode cX10_init 115 = .ok (.aload_n 0, 1) := by decide +kernel
theorem dX10_init_116 : decode cX10_init 116 = .ok (.iconst 3, 1) := by decide +kernel
theorem dX10_init_117 : decode cX10_init 117 = .ok (.anewarray 59, 3) := by decide +kernel
theorem dX10_init_120 : decode cX10_init 120 = .ok (.putfield 69, 3) := by decide +kernel
theorem dX10_init_123 : decode cX10_init 123 = .ok (.iconst 0, 1) := by decide +kernel
theorem dX10_init_124 : decode cX10_init 124 = .ok (.istore_n 1, 1) := by decide +kernel
theorem dX10_init_125 : decode cX10_init 125 = .ok (.iload_n 1, 1) := by decide +kernel
theorem dX10_init_126 : decode cX10_init 126 = .ok (.iconst 3, 1) := by decide +kernel
theorem dX10_init_127 : decode cX10_init 127 = .ok (.if_icmp .ge 22, 3) := by decide +kernel
theorem dX10_init_130 : decode cX10_init 130 = .ok (.aload_n 0, 1) := by decide +kernel
theorem dX10_init_131 : decode cX10_init 131 = .ok (.getfield 69, 3) := by decide +kernel
theorem dX10_init_134 : decode cX10_init 134 = .ok (.iload_n 1, 1) := by decide +kernel
theorem dX10_init_135 : decode cX10_init 135 = .ok (.new 59, 3) := by decide +kernel
theorem dX10_init_138 : decode cX10_init 138 = .ok (.dup, 1) := by decide +kernel
theorem dX10_init_139 : decode cX10_init 139 = .ok (.invokespecial 61, 3) := by decide +kernel
theorem dX10_init_142 : decode cX10_init 142 = .ok (.aastore, 1) := by decide +kernel
theorem dX10_init_143 : decode cX10_init 143 = .ok (.iinc 1 1, 3) := by decide +kernel
theorem dX10_init_146 : decode cX10_init 146 = .ok (.goto (-21), 3) := by decide +kernel
theorem dX10_init_149 : decode cX10_init 149 = .ok (.aload_n 0, 1) := by decide +kernel
theorem dX10_init_150 : decode cX10_init 150 = .ok (.new 73, 3) := by decide +kernel
theorem dX10_init_153 : decode cX10_init 153 = .ok (.dup, 1) := by decide +kernel
theorem dX10_init_154 : decode cX10_init 154 = .ok (.invokespecial 75, 3) := by decide +kernel
theorem dX10_init_157 : decode cX10_init 157 = .ok (.putfield 76, 3) := by decide +kernel
theorem dX10_init_160 : decode cX10_init 160 = .ok (.aload_n 0, 1) := by decide +kernel
theorem dX10_init_161 : decode cX10_init 161 = .ok (.new 80, 3) := by decide +kernel
theorem dX10_init_164 : decode cX10_init 164 = .ok (.dup, 1) := by decide +kernel
theorem dX10_init_165 : decode cX10_init 165 = .ok (.invokespecial 82, 3) := by decide +kernel
theorem dX10_init_168 : decode cX10_init 168 = .ok (.putfield 83, 3) := by decide +kernel
theorem dX10_init_171 : decode cX10_init 171 = .ok (.aload_n 0, 1) := by decide +kernel
theorem dX10_init_172 : decode cX10_init 172 = .ok (.invokevirtual 87, 3) := by decide +kernel
theorem dX10_init_175 : decode cX10_init 175 = .ok (.return_, 1) := by decide +kernel
theorem dX10_feed_0 : decode cX10_feed 0 = .ok (.aload_n 0, 1) := by decide +kernel
theorem dX10_feed_1 : decode cX10_feed 1 = .ok (.getfield 12, 3) := by decide +kernel
theorem dX10_feed_4 : decode cX10_feed 4 = .ok (.getfield 90, 3) := by decide +kernel
theorem dX10_feed_7 : decode cX10_feed 7 = .ok (.bipush 20, 2) := by decide +kernel
theorem dX10_feed_9 : decode cX10_feed 9 = .ok (.iadd, 1) := by decide +kernel
theorem dX10_feed_10 : decode cX10_feed 10 = .ok (.sipush 900, 3) := by decide +kernel
theorem dX10_feed_13 : decode cX10_feed 13 = .ok (.if_icmp .le 6, 3) := by decide +kernel
theorem dX10_feed_16 : decode cX10_feed 16 = .ok (.bipush (-3), 2) := by decide +kernel
theorem dX10_feed_18 : decode cX10_feed 18 = .ok (.ireturn, 1) := by decide +kernel
theorem dX10_feed_19 : decode cX10_feed 19 = .ok (.aload_n 0, 1) := by decide +kernel
theorem dX10_feed_20 : decode cX10_feed 20 = .ok (.getfield 12, 3) := by decide +kernel
theorem dX10_feed_23 : decode cX10_feed 23 = .ok (.iload_n 1, 1) := by decide +kernel
theorem dX10_feed_24 : decode cX10_feed 24 = .ok (.invokevirtual 94, 3) := by decide +kernel
theorem dX10_feed_27 : decode cX10_feed 27 = .ok (.aload_n 0, 1) := by decide +kernel
theorem dX10_feed_28 : decode cX10_feed 28 = .ok (.getfield 12, 3) := by decide +kernel
theorem dX10_feed_31 : decode cX10_feed 31 = .ok (.iload_n 2, 1) := by decide +kernel
theorem dX10_feed_32 : decode cX10_feed 32 = .ok (.invokevirtual 94, 3) := by decide +kernel
theorem dX10_feed_35 : decode cX10_feed 35 = .ok (.aload_n 0, 1) := by decide +kernel
theorem dX10_feed_36 : decode cX10_feed 36 = .ok (.getfield 12, 3) := by decide +kernel
theorem dX10_feed_39 : decode cX10_feed 39 = .ok (.iload_n 3, 1) := by decide +kernel
theorem dX10_feed_40 : decode cX10_feed 40 = .ok (.invokevirtual 94, 3) := by decide +kernel
theorem dX10_feed_43 : decode cX10_feed 43 = .ok (.aload_n 0, 1) := by decide +kernel
theorem dX10_feed_44 : decode cX10_feed 44 = .ok (.getfield 12, 3) := by decide +kernel
theorem dX10_feed_47 : decode cX10_feed 47 = .ok (.iload 4, 2) := by decide +kernel
theorem dX10_feed_49 : decode cX10_feed 49 = .ok (.invokevirtual 94, 3) := by decide +kernel
theorem dX10_feed_52 : decode cX10_feed 52 = .ok (.aload_n 0, 1) := by decide +kernel
theorem dX10_feed_53 : decode cX10_feed 53 = .ok (.getfield 12, 3) := by decide +kernel
theorem dX10_feed_56 : decode cX10_feed 56 = .ok (.iload 5, 2) := by decide +kernel
theorem dX10_feed_58 : decode cX10_feed 58 = .ok (.invokevirtual 94, 3) := by decide +kernel
theorem dX10_feed_61 : decode cX10_feed 61 = .ok (.aload_n 0, 1) := by decide +kernel
theorem dX10_feed_62 : decode cX10_feed 62 = .ok (.getfield 12, 3) := by decide +kernel
theorem dX10_feed_65 : decode cX10_feed 65 = .ok (.getfield 90, 3) := by decide +kernel
theorem dX10_feed_68 : decode cX10_feed 68 = .ok (.ireturn, 1) := by decide +kernel
theorem dX10_end_0 : decode cX10_end 0 = .ok (.iload_n 1, 1) := by decide +kernel
theorem dX10_end_1 : decode cX10_end 1 = .ok (.ifCond .lt 14, 3) := by decide +kernel
theorem dX10_end_4 : decode cX10_end 4 = .ok (.iload_n 1, 1) := by decide +kernel
theorem dX10_end_5 : decode cX10_end 5 = .ok (.aload_n 0, 1) := by decide +kernel
theorem dX10_end_6 : decode cX10_end 6 = .ok (.getfield 12, 3) := by decide +kernel
theorem dX10_end_9 : decode cX10_end 9 = .ok (.getfield 90, 3) := by decide +kernel
theorem dX10_end_12 : decode cX10_end 12 = .ok (.if_icmp .le 5, 3) := by decide +kernel
theorem dX10_end_15 : decode cX10_end 15 = .ok (.iconst (-1), 1) := by decide +kernel
theorem dX10_end_16 : decode cX10_end 16 = .ok (.ireturn, 1) := by decide +kernel
theorem dX10_end_17 : decode cX10_end 17 = .ok (.aload_n 0, 1) := by decide +kernel
theorem dX10_end_18 : decode cX10_end 18 = .ok (.getfield 12, 3) := by decide +kernel
theorem dX10_end_21 : decode cX10_end 21 = .ok (.iload_n 1, 1) := by decide +kernel
theorem dX10_end_22 : decode cX10_end 22 = .ok (.putfield 90, 3) := by decide +kernel
theorem dX10_end_25 : decode cX10_end 25 = .ok (.iload_n 1, 1) := by decide +kernel
theorem dX10_end_26 : decode cX10_end 26 = .ok (.ireturn, 1) := by decide +kernel
theorem dX10_town_0 : decode cX10_town 0 = .ok (.aload_n 0, 1) := by decide +kernel
theorem dX10_town_1 : decode cX10_town 1 = .ok (.getfield 21, 3) := by decide +kernel
theorem dX10_town_4 : decode cX10_town 4 = .ok (.aload_n 0, 1) := by decide +kernel
theorem dX10_town_5 : decode cX10_town 5 = .ok (.getfield 37, 3) := by decide +kernel
theorem dX10_town_8 : decode cX10_town 8 = .ok (.invokevirtual 98, 3) := by decide +kernel
theorem dX10_town_11 : decode cX10_town 11 = .ok (.istore_n 1, 1) := by decide +kernel
theorem dX10_town_12 : decode cX10_town 12 = .ok (.aload_n 0, 1) := by decide +kernel
theorem dX10_town_13 : decode cX10_town 13 = .ok (.getfield 12, 3) := by decide +kernel
theorem dX10_town_16 : decode cX10_town 16 = .ok (.iconst 0, 1) := by decide +kernel
theorem dX10_town_17 : decode cX10_town 17 = .ok (.putfield 90, 3) := by decide +kernel
theorem dX10_town_20 : decode cX10_town 20 = .ok (.iload_n 1, 1) := by decide +kernel
theorem dX10_town_21 : decode cX10_town 21 = .ok (.ifCond .ne 5, 3) := by decide +kernel
theorem dX10_town_24 : decode cX10_town 24 = .ok (.iconst (-1), 1) := by decide +kernel
theorem dX10_town_25 : decode cX10_town 25 = .ok (.ireturn, 1) := by decide +kernel
theorem dX10_town_26 : decode cX10_town 26 = .ok (.aload_n 0, 1) := by decide +kernel
theorem dX10_town_27 : decode cX10_town 27 = .ok (.getfield 33, 3) := by decide +kernel
theorem dX10_town_30 : decode cX10_town 30 = .ok (.getfield 102, 3) := by decide +kernel
theorem dX10_town_33 : decode cX10_town 33 = .ok (.astore_n 2, 1) := by decide +kernel
theorem dX10_town_34 : decode cX10_town 34 = .ok (.aload_n 0, 1) := by decide +kernel
theorem dX10_town_35 : decode cX10_town 35 = .ok (.getfield 33, 3) := by decide +kernel
theorem dX10_town_38 : decode cX10_town 38 = .ok (.aload_n 0, 1) := by decide +kernel
theorem dX10_town_39 : decode cX10_town 39 = .ok (.getfield 37, 3) := by decide +kernel
theorem dX10_town_42 : decode cX10_town 42 = .ok (.putfield 102, 3) := by decide +kernel
theorem dX10_town_45 : decode cX10_town 45 = .ok (.aload_n 0, 1) := by decide +kernel
theorem dX10_town_46 : decode cX10_town 46 = .ok (.aload_n 2, 1) := by decide +kernel
theorem dX10_town_47 : decode cX10_town 47 = .ok (.putfield 37, 3) := by decide +kernel
theorem dX10_town_50 : decode cX10_town 50 = .ok (.aload_n 0, 1) := by decide +kernel
theorem dX10_town_51 : decode cX10_town 51 = .ok (.invokevirtual 87, 3) := by decide +kernel
theorem dX10_town_54 : decode cX10_town 54 = .ok (.aload_n 0, 1) := by decide +kernel
theorem dX10_town_55 : decode cX10_town 55 = .ok (.getfield 33, 3) := by decide +kernel
theorem dX10_town_58 : decode cX10_town 58 = .ok (.getfield 102, 3) := by decide +kernel
theorem dX10_town_61 : decode cX10_town 61 = .ok (.getfield 105, 3) := by decide +kernel
theorem dX10_town_64 : decode cX10_town 64 = .ok (.ireturn, 1) := by decide +kernel
theorem dX10_fault_0 : decode cX10_fault 0 = .ok (.iload_n 1, 1) := by decide +kernel
theorem dX10_fault_1 : decode cX10_fault 1 = .ok (.ifCond .ne 13, 3) := by decide +kernel
theorem dX10_fault_4 : decode cX10_fault 4 = .ok (.aload_n 0, 1) := by decide +kernel
theorem dX10_fault_5 : decode cX10_fault 5 = .ok (.getfield 21, 3) := by decide +kernel
theorem dX10_fault_8 : decode cX10_fault 8 = .ok (.getfield 108, 3) := by decide +kernel
theorem dX10_fault_11 : decode cX10_fault 11 = .ok (.goto 19, 3) := by decide +kernel
theorem dX10_fault_14 : decode cX10_fault 14 = .ok (.iload_n 1, 1) := by decide +kernel
theorem dX10_fault_15 : decode cX10_fault 15 = .ok (.iconst 1, 1) := by decide +kernel
theorem dX10_fault_16 : decode cX10_fault 16 = .ok (.if_icmp .ne 13, 3) := by decide +kernel
theorem dX10_fault_19 : decode cX10_fault 19 = .ok (.aload_n 0, 1) := by decide +kernel
theorem dX10_fault_20 : decode cX10_fault 20 = .ok (.getfield 21, 3) := by decide +kernel
theorem dX10_fault_23 : decode cX10_fault 23 = .ok (.getfield 111, 3) := by decide +kernel
theorem dX10_fault_26 : decode cX10_fault 26 = .ok (.goto 4, 3) := by decide +kernel
theorem dX10_fault_29 : decode cX10_fault 29 = .ok (.iconst (-1), 1) := by decide +kernel
theorem dX10_fault_30 : decode cX10_fault 30 = .ok (.ireturn, 1) := by decide +kernel
theorem dX10_told_0 : decode cX10_told 0 = .ok (.aload_n 0, 1) := by decide +kernel
theorem dX10_told_1 : decode cX10_told 1 = .ok (.getfield 33, 3) := by decide +kernel
theorem dX10_told_4 : decode cX10_told 4 = .ok (.getfield 102, 3) := by decide +kernel
theorem dX10_told_7 : decode cX10_told 7 = .ok (.astore_n 2, 1) := by decide +kernel
theorem dX10_told_8 : decode cX10_told 8 = .ok (.iload_n 1, 1) := by decide +kernel
theorem dX10_told_9 : decode cX10_told 9 = .ok (.tableswitch 51 0 3 #[31, 36, 41, 46], 31) := by decide +kernel
theorem dX10_told_40 : decode cX10_told 40 = .ok (.aload_n 2, 1) := by decide +kernel
theorem dX10_told_41 : decode cX10_told 41 = .ok (.getfield 114, 3) := by decide +kernel
theorem dX10_told_44 : decode cX10_told 44 = .ok (.ireturn, 1) := by decide +kernel
theorem dX10_told_45 : decode cX10_told 45 = .ok (.aload_n 2, 1) := by decide +kernel
theorem dX10_told_46 : decode cX10_told 46 = .ok (.getfield 117, 3) := by decide +kernel
theorem dX10_told_49 : decode cX10_told 49 = .ok (.ireturn, 1) := by decide +kernel
