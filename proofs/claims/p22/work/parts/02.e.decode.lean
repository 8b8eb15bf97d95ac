theorem dX11_readThingOf_87 : decode cX11_readThingOf 87 = .ok (.iconst 0, 1) := by decide +kernel
theorem dX11_readThingOf_88 : decode cX11_readThingOf 88 = .ok (.istore_n 2, 1) := by decide +kernel
theorem dX11_readThingOf_89 : decode cX11_readThingOf 89 = .ok (.iload_n 2, 1) := by decide +kernel
theorem dX11_readThingOf_90 : decode cX11_readThingOf 90 = .ok (.bipush 7, 2) := by decide +kernel
theorem dX11_readThingOf_92 : decode cX11_readThingOf 92 = .ok (.if_icmp .ge 33, 3) := by decide +kernel
theorem dX11_readThingOf_95 : decode cX11_readThingOf 95 = .ok (.aload_n 0, 1) := by decide +kernel
theorem dX11_readThingOf_96 : decode cX11_readThingOf 96 = .ok (.getfield 141, 3) := by decide +kernel
theorem dX11_readThingOf_99 : decode cX11_readThingOf 99 = .ok (.bipush 7, 2) := by decide +kernel
theorem dX11_readThingOf_101 : decode cX11_readThingOf 101 = .ok (.iload_n 1, 1) := by decide +kernel
theorem dX11_readThingOf_102 : decode cX11_readThingOf 102 = .ok (.imul, 1) := by decide +kernel
theorem dX11_readThingOf_103 : decode cX11_readThingOf 103 = .ok (.iload_n 2, 1) := by decide +kernel
theorem dX11_readThingOf_104 : decode cX11_readThingOf 104 = .ok (.iadd, 1) := by decide +kernel
theorem dX11_readThingOf_105 : decode cX11_readThingOf 105 = .ok (.iconst 5, 1) := by decide +kernel
theorem dX11_readThingOf_106 : decode cX11_readThingOf 106 = .ok (.iastore, 1) := by decide +kernel
theorem dX11_readThingOf_107 : decode cX11_readThingOf 107 = .ok (.aload_n 0, 1) := by decide +kernel
theorem dX11_readThingOf_108 : decode cX11_readThingOf 108 = .ok (.getfield 144, 3) := by decide +kernel
theorem dX11_readThingOf_111 : decode cX11_readThingOf 111 = .ok (.bipush 7, 2) := by decide +kernel
theorem dX11_readThingOf_113 : decode cX11_readThingOf 113 = .ok (.iload_n 1, 1) := by decide +kernel
theorem dX11_readThingOf_114 : decode cX11_readThingOf 114 = .ok (.imul, 1) := by decide +kernel
theorem dX11_readThingOf_115 : decode cX11_readThingOf 115 = .ok (.iload_n 2, 1) := by decide +kernel
theorem dX11_readThingOf_116 : decode cX11_readThingOf 116 = .ok (.iadd, 1) := by decide +kernel
theorem dX11_readThingOf_117 : decode cX11_readThingOf 117 = .ok (.iconst (-1), 1) := by decide +kernel
theorem dX11_readThingOf_118 : decode cX11_readThingOf 118 = .ok (.iastore, 1) := by decide +kernel
theorem dX11_readThingOf_119 : decode cX11_readThingOf 119 = .ok (.iinc 2 1, 3) := by decide +kernel
theorem dX11_readThingOf_122 : decode cX11_readThingOf 122 = .ok (.goto (-33), 3) := by decide +kernel
theorem dX11_readThingOf_125 : decode cX11_readThingOf 125 = .ok (.aload_n 0, 1) := by decide +kernel
theorem dX11_readThingOf_126 : decode cX11_readThingOf 126 = .ok (.dup, 1) := by decide +kernel
theorem dX11_readThingOf_127 : decode cX11_readThingOf 127 = .ok (.getfield 126, 3) := by decide +kernel
theorem dX11_readThingOf_130 : decode cX11_readThingOf 130 = .ok (.iconst 1, 1) := by decide +kernel
theorem dX11_readThingOf_131 : decode cX11_readThingOf 131 = .ok (.iadd, 1) := by decide +kernel
theorem dX11_readThingOf_132 : decode cX11_readThingOf 132 = .ok (.putfield 126, 3) := by decide +kernel
theorem dX11_readThingOf_135 : decode cX11_readThingOf 135 = .ok (.iconst 1, 1) := by decide +kernel
theorem dX11_readThingOf_136 : decode cX11_readThingOf 136 = .ok (.ireturn, 1) := by decide +kernel
theorem dX11_readEarns_0 : decode cX11_readEarns 0 = .ok (.aload_n 0, 1) := by decide +kernel
theorem dX11_readEarns_1 : decode cX11_readEarns 1 = .ok (.invokevirtual 63, 3) := by decide +kernel
theorem dX11_readEarns_4 : decode cX11_readEarns 4 = .ok (.aload_n 0, 1) := by decide +kernel
theorem dX11_readEarns_5 : decode cX11_readEarns 5 = .ok (.aload_n 0, 1) := by decide +kernel
theorem dX11_readEarns_6 : decode cX11_readEarns 6 = .ok (.getfield 91, 3) := by decide +kernel
theorem dX11_readEarns_9 : decode cX11_readEarns 9 = .ok (.aload_n 0, 1) := by decide +kernel
theorem dX11_readEarns_10 : decode cX11_readEarns 10 = .ok (.getfield 88, 3) := by decide +kernel
theorem dX11_readEarns_13 : decode cX11_readEarns 13 = .ok (.invokevirtual 147, 3) := by decide +kernel
theorem dX11_readEarns_16 : decode cX11_readEarns 16 = .ok (.ifCond .ne 5, 3) := by decide +kernel
theorem dX11_readEarns_19 : decode cX11_readEarns 19 = .ok (.iconst 0, 1) := by decide +kernel
theorem dX11_readEarns_20 : decode cX11_readEarns 20 = .ok (.ireturn, 1) := by decide +kernel
theorem dX11_readEarns_21 : decode cX11_readEarns 21 = .ok (.aload_n 0, 1) := by decide +kernel
theorem dX11_readEarns_22 : decode cX11_readEarns 22 = .ok (.getfield 56, 3) := by decide +kernel
theorem dX11_readEarns_25 : decode cX11_readEarns 25 = .ok (.istore_n 1, 1) := by decide +kernel
theorem dX11_readEarns_26 : decode cX11_readEarns 26 = .ok (.aload_n 0, 1) := by decide +kernel
theorem dX11_readEarns_27 : decode cX11_readEarns 27 = .ok (.iconst 0, 1) := by decide +kernel
theorem dX11_readEarns_28 : decode cX11_readEarns 28 = .ok (.bipush 6, 2) := by decide +kernel
theorem dX11_readEarns_30 : decode cX11_readEarns 30 = .ok (.invokevirtual 59, 3) := by decide +kernel
theorem dX11_readEarns_33 : decode cX11_readEarns 33 = .ok (.ifCond .ne 5, 3) := by decide +kernel
theorem dX11_readEarns_36 : decode cX11_readEarns 36 = .ok (.iconst 0, 1) := by decide +kernel
theorem dX11_readEarns_37 : decode cX11_readEarns 37 = .ok (.ireturn, 1) := by decide +kernel
theorem dX11_readEarns_38 : decode cX11_readEarns 38 = .ok (.aload_n 0, 1) := by decide +kernel
theorem dX11_readEarns_39 : decode cX11_readEarns 39 = .ok (.getfield 111, 3) := by decide +kernel
theorem dX11_readEarns_42 : decode cX11_readEarns 42 = .ok (.iload_n 1, 1) := by decide +kernel
theorem dX11_readEarns_43 : decode cX11_readEarns 43 = .ok (.iaload, 1) := by decide +kernel
theorem dX11_readEarns_44 : decode cX11_readEarns 44 = .ok (.aload_n 0, 1) := by decide +kernel
theorem dX11_readEarns_45 : decode cX11_readEarns 45 = .ok (.getfield 56, 3) := by decide +kernel
theorem dX11_readEarns_48 : decode cX11_readEarns 48 = .ok (.ishr, 1) := by decide +kernel
theorem dX11_readEarns_49 : decode cX11_readEarns 49 = .ok (.iconst 1, 1) := by decide +kernel
theorem dX11_readEarns_50 : decode cX11_readEarns 50 = .ok (.iand, 1) := by decide +kernel
theorem dX11_readEarns_51 : decode cX11_readEarns 51 = .ok (.iconst 1, 1) := by decide +kernel
theorem dX11_readEarns_52 : decode cX11_readEarns 52 = .ok (.if_icmp .ne 9, 3) := by decide +kernel
theorem dX11_readEarns_55 : decode cX11_readEarns 55 = .ok (.aload_n 0, 1) := by decide +kernel
theorem dX11_readEarns_56 : decode cX11_readEarns 56 = .ok (.iconst 3, 1) := by decide +kernel
theorem dX11_readEarns_57 : decode cX11_readEarns 57 = .ok (.invokevirtual 49, 3) := by decide +kernel
theorem dX11_readEarns_60 : decode cX11_readEarns 60 = .ok (.ireturn, 1) := by decide +kernel
theorem dX11_readEarns_61 : decode cX11_readEarns 61 = .ok (.aload_n 0, 1) := by decide +kernel
theorem dX11_readEarns_62 : decode cX11_readEarns 62 = .ok (.getfield 111, 3) := by decide +kernel
theorem dX11_readEarns_65 : decode cX11_readEarns 65 = .ok (.iload_n 1, 1) := by decide +kernel
theorem dX11_readEarns_66 : decode cX11_readEarns 66 = .ok (.dup2, 1) := by decide +kernel
theorem dX11_readEarns_67 : decode cX11_readEarns 67 = .ok (.iaload, 1) := by decide +kernel
theorem dX11_readEarns_68 : decode cX11_readEarns 68 = .ok (.iconst 1, 1) := by decide +kernel
theorem dX11_readEarns_69 : decode cX11_readEarns 69 = .ok (.aload_n 0, 1) := by decide +kernel
theorem dX11_readEarns_70 : decode cX11_readEarns 70 = .ok (.getfield 56, 3) := by decide +kernel
theorem dX11_readEarns_73 : decode cX11_readEarns 73 = .ok (.ishl, 1) := by decide +kernel
theorem dX11_readEarns_74 : decode cX11_readEarns 74 = .ok (.ior, 1) := by decide +kernel
theorem dX11_readEarns_75 : decode cX11_readEarns 75 = .ok (.iastore, 1) := by decide +kernel
theorem dX11_readEarns_76 : decode cX11_readEarns 76 = .ok (.bipush 7, 2) := by decide +kernel
theorem dX11_readEarns_78 : decode cX11_readEarns 78 = .ok (.iload_n 1, 1) := by decide +kernel
theorem dX11_readEarns_79 : decode cX11_readEarns 79 = .ok (.imul, 1) := by decide +kernel
theorem dX11_readEarns_80 : decode cX11_readEarns 80 = .ok (.aload_n 0, 1) := by decide +kernel
theorem dX11_readEarns_81 : decode cX11_readEarns 81 = .ok (.getfield 56, 3) := by decide +kernel
theorem dX11_readEarns_84 : decode cX11_readEarns 84 = .ok (.iadd, 1) := by decide +kernel
theorem dX11_readEarns_85 : decode cX11_readEarns 85 = .ok (.istore_n 2, 1) := by decide +kernel
theorem dX11_readEarns_86 : decode cX11_readEarns 86 = .ok (.aload_n 0, 1) := by decide +kernel
theorem dX11_readEarns_87 : decode cX11_readEarns 87 = .ok (.invokevirtual 63, 3) := by decide +kernel
theorem dX11_readEarns_90 : decode cX11_readEarns 90 = .ok (.aload_n 0, 1) := by decide +kernel
theorem dX11_readEarns_91 : decode cX11_readEarns 91 = .ok (.iconst 1, 1) := by decide +kernel
theorem dX11_readEarns_92 : decode cX11_readEarns 92 = .ok (.bipush 20, 2) := by decide +kernel
theorem dX11_readEarns_94 : decode cX11_readEarns 94 = .ok (.invokevirtual 81, 3) := by decide +kernel
theorem dX11_readEarns_97 : decode cX11_readEarns 97 = .ok (.ifCond .ne 5, 3) := by decide +kernel
theorem dX11_readEarns_100 : decode cX11_readEarns 100 = .ok (.iconst 0, 1) := by decide +kernel
theorem dX11_readEarns_101 : decode cX11_readEarns 101 = .ok (.ireturn, 1) := by decide +kernel
theorem dX11_readEarns_102 : decode cX11_readEarns 102 = .ok (.aload_n 0, 1) := by decide +kernel
theorem dX11_readEarns_103 : decode cX11_readEarns 103 = .ok (.getfield 114, 3) := by decide +kernel
theorem dX11_readEarns_106 : decode cX11_readEarns 106 = .ok (.iload_n 2, 1) := by decide +kernel
theorem dX11_readEarns_107 : decode cX11_readEarns 107 = .ok (.aload_n 0, 1) := by decide +kernel
theorem dX11_readEarns_108 : decode cX11_readEarns 108 = .ok (.getfield 56, 3) := by decide +kernel
theorem dX11_readEarns_111 : decode cX11_readEarns 111 = .ok (.iastore, 1) := by decide +kernel
theorem dX11_readEarns_112 : decode cX11_readEarns 112 = .ok (.iconst 1, 1) := by decide +kernel
theorem dX11_readEarns_113 : decode cX11_readEarns 113 = .ok (.ireturn, 1) := by decide +kernel
theorem dX11_readPrices_0 : decode cX11_readPrices 0 = .ok (.aload_n 0, 1) := by decide +kernel
theorem dX11_readPrices_1 : decode cX11_readPrices 1 = .ok (.invokevirtual 63, 3) := by decide +kernel
theorem dX11_readPrices_4 : decode cX11_readPrices 4 = .ok (.aload_n 0, 1) := by decide +kernel
theorem dX11_readPrices_5 : decode cX11_readPrices 5 = .ok (.aload_n 0, 1) := by decide +kernel
theorem dX11_readPrices_6 : decode cX11_readPrices 6 = .ok (.getfield 129, 3) := by decide +kernel
theorem dX11_readPrices_9 : decode cX11_readPrices 9 = .ok (.aload_n 0, 1) := by decide +kernel
theorem dX11_readPrices_10 : decode cX11_readPrices 10 = .ok (.getfield 126, 3) := by decide +kernel
theorem dX11_readPrices_13 : decode cX11_readPrices 13 = .ok (.invokevirtual 147, 3) := by decide +kernel
theorem dX11_readPrices_16 : decode cX11_readPrices 16 = .ok (.ifCond .ne 5, 3) := by decide +kernel
theorem dX11_readPrices_19 : decode cX11_readPrices 19 = .ok (.iconst 0, 1) := by decide +kernel
theorem dX11_readPrices_20 : decode cX11_readPrices 20 = .ok (.ireturn, 1) := by decide +kernel
theorem dX11_readPrices_21 : decode cX11_readPrices 21 = .ok (.aload_n 0, 1) := by decide +kernel
theorem dX11_readPrices_22 : decode cX11_readPrices 22 = .ok (.getfield 56, 3) := by decide +kernel
theorem dX11_readPrices_25 : decode cX11_readPrices 25 = .ok (.istore_n 1, 1) := by decide +kernel
theorem dX11_readPrices_26 : decode cX11_readPrices 26 = .ok (.aload_n 0, 1) := by decide +kernel
theorem dX11_readPrices_27 : decode cX11_readPrices 27 = .ok (.iconst 0, 1) := by decide +kernel
theorem dX11_readPrices_28 : decode cX11_readPrices 28 = .ok (.bipush 6, 2) := by decide +kernel
theorem dX11_readPrices_30 : decode cX11_readPrices 30 = .ok (.invokevirtual 59, 3) := by decide +kernel
theorem dX11_readPrices_33 : decode cX11_readPrices 33 = .ok (.ifCond .ne 5, 3) := by decide +kernel
theorem dX11_readPrices_36 : decode cX11_readPrices 36 = .ok (.iconst 0, 1) := by decide +kernel
theorem dX11_readPrices_37 : decode cX11_readPrices 37 = .ok (.ireturn, 1) := by decide +kernel
theorem dX11_readPrices_38 : decode cX11_readPrices 38 = .ok (.aload_n 0, 1) := by decide +kernel
theorem dX11_readPrices_39 : decode cX11_readPrices 39 = .ok (.getfield 138, 3) := by decide +kernel
theorem dX11_readPrices_42 : decode cX11_readPrices 42 = .ok (.iload_n 1, 1) := by decide +kernel
theorem dX11_readPrices_43 : decode cX11_readPrices 43 = .ok (.iaload, 1) := by decide +kernel
theorem dX11_readPrices_44 : decode cX11_readPrices 44 = .ok (.aload_n 0, 1) := by decide +kernel
theorem dX11_readPrices_45 : decode cX11_readPrices 45 = .ok (.getfield 56, 3) := by decide +kernel
theorem dX11_readPrices_48 : decode cX11_readPrices 48 = .ok (.ishr, 1) := by decide +kernel
theorem dX11_readPrices_49 : decode cX11_readPrices 49 = .ok (.iconst 1, 1) := by decide +kernel
theorem dX11_readPrices_50 : decode cX11_readPrices 50 = .ok (.iand, 1) := by decide +kernel
theorem dX11_readPrices_51 : decode cX11_readPrices 51 = .ok (.iconst 1, 1) := by decide +kernel
theorem dX11_readPrices_52 : decode cX11_readPrices 52 = .ok (.if_icmp .ne 9, 3) := by decide +kernel
theorem dX11_readPrices_55 : decode cX11_readPrices 55 = .ok (.aload_n 0, 1) := by decide +kernel
theorem dX11_readPrices_56 : decode cX11_readPrices 56 = .ok (.iconst 3, 1) := by decide +kernel
theorem dX11_readPrices_57 : decode cX11_readPrices 57 = .ok (.invokevirtual 49, 3) := by decide +kernel
theorem dX11_readPrices_60 : decode cX11_readPrices 60 = .ok (.ireturn, 1) := by decide +kernel
theorem dX11_readPrices_61 : decode cX11_readPrices 61 = .ok (.aload_n 0, 1) := by decide +kernel
theorem dX11_readPrices_62 : decode cX11_readPrices 62 = .ok (.getfield 138, 3) := by decide +kernel
theorem dX11_readPrices_65 : decode cX11_readPrices 65 = .ok (.iload_n 1, 1) := by decide +kernel
theorem dX11_readPrices_66 : decode cX11_readPrices 66 = .ok (.dup2, 1) := by decide +kernel
theorem dX11_readPrices_67 : decode cX11_readPrices 67 = .ok (.iaload, 1) := by decide +kernel
theorem dX11_readPrices_68 : decode cX11_readPrices 68 = .ok (.iconst 1, 1) := by decide +kernel
theorem dX11_readPrices_69 : decode cX11_readPrices 69 = .ok (.aload_n 0, 1) := by decide +kernel
theorem dX11_readPrices_70 : decode cX11_readPrices 70 = .ok (.getfield 56, 3) := by decide +kernel
theorem dX11_readPrices_73 : decode cX11_readPrices 73 = .ok (.ishl, 1) := by decide +kernel
theorem dX11_readPrices_74 : decode cX11_readPrices 74 = .ok (.ior, 1) := by decide +kernel
theorem dX11_readPrices_75 : decode cX11_readPrices 75 = .ok (.iastore, 1) := by decide +kernel
theorem dX11_readPrices_76 : decode cX11_readPrices 76 = .ok (.bipush 7, 2) := by decide +kernel
theorem dX11_readPrices_78 : decode cX11_readPrices 78 = .ok (.iload_n 1, 1) := by decide +kernel
theorem dX11_readPrices_79 : decode cX11_readPrices 79 = .ok (.imul, 1) := by decide +kernel
theorem dX11_readPrices_80 : decode cX11_readPrices 80 = .ok (.aload_n 0, 1) := by decide +kernel
theorem dX11_readPrices_81 : decode cX11_readPrices 81 = .ok (.getfield 56, 3) := by decide +kernel
theorem dX11_readPrices_84 : decode cX11_readPrices 84 = .ok (.iadd, 1) := by decide +kernel
theorem dX11_readPrices_85 : decode cX11_readPrices 85 = .ok (.istore_n 2, 1) := by decide +kernel
theorem dX11_readPrices_86 : decode cX11_readPrices 86 = .ok (.aload_n 0, 1) := by decide +kernel
theorem dX11_readPrices_87 : decode cX11_readPrices 87 = .ok (.invokevirtual 63, 3) := by decide +kernel
theorem dX11_readPrices_90 : decode cX11_readPrices 90 = .ok (.aload_n 0, 1) := by decide +kernel
theorem dX11_readPrices_91 : decode cX11_readPrices 91 = .ok (.iconst 1, 1) := by decide +kernel
theorem dX11_readPrices_92 : decode cX11_readPrices 92 = .ok (.bipush 20, 2) := by decide +kernel
theorem dX11_readPrices_94 : decode cX11_readPrices 94 = .ok (.invokevirtual 81, 3) := by decide +kernel
theorem dX11_readPrices_97 : decode cX11_readPrices 97 = .ok (.ifCond .ne 5, 3) := by decide +kernel
theorem dX11_readPrices_100 : decode cX11_readPrices 100 = .ok (.iconst 0, 1) := by decide +kernel
theorem dX11_readPrices_101 : decode cX11_readPrices 101 = .ok (.ireturn, 1) := by decide +kernel
theorem dX11_readPrices_102 : decode cX11_readPrices 102 = .ok (.aload_n 0, 1) := by decide +kernel
theorem dX11_readPrices_103 : decode cX11_readPrices 103 = .ok (.getfield 141, 3) := by decide +kernel
theorem dX11_readPrices_106 : decode cX11_readPrices 106 = .ok (.iload_n 2, 1) := by decide +kernel
theorem dX11_readPrices_107 : decode cX11_readPrices 107 = .ok (.aload_n 0, 1) := by decide +kernel
theorem dX11_readPrices_108 : decode cX11_readPrices 108 = .ok (.getfield 56, 3) := by decide +kernel
theorem dX11_readPrices_111 : decode cX11_readPrices 111 = .ok (.iastore, 1) := by decide +kernel
theorem dX11_readPrices_112 : decode cX11_readPrices 112 = .ok (.iconst 1, 1) := by decide +kernel
theorem dX11_readPrices_113 : decode cX11_readPrices 113 = .ok (.ireturn, 1) := by decide +kernel
theorem dX11_readMakes_0 : decode cX11_readMakes 0 = .ok (.aload_n 0, 1) := by decide +kernel
theorem dX11_readMakes_1 : decode cX11_readMakes 1 = .ok (.invokevirtual 63, 3) := by decide +kernel
theorem dX11_readMakes_4 : decode cX11_readMakes 4 = .ok (.aload_n 0, 1) := by decide +kernel
theorem dX11_readMakes_5 : decode cX11_readMakes 5 = .ok (.aload_n 0, 1) := by decide +kernel
theorem dX11_readMakes_6 : decode cX11_readMakes 6 = .ok (.getfield 129, 3) := by decide +kernel
theorem dX11_readMakes_9 : decode cX11_readMakes 9 = .ok (.aload_n 0, 1) := by decide +kernel
theorem dX11_readMakes_10 : decode cX11_readMakes 10 = .ok (.getfield 126, 3) := by decide +kernel
theorem dX11_readMakes_13 : decode cX11_readMakes 13 = .ok (.invokevirtual 147, 3) := by decide +kernel
theorem dX11_readMakes_16 : decode cX11_readMakes 16 = .ok (.ifCond .ne 5, 3) := by decide +kernel
theorem dX11_readMakes_19 : decode cX11_readMakes 19 = .ok (.iconst 0, 1) := by decide +kernel
theorem dX11_readMakes_20 : decode cX11_readMakes 20 = .ok (.ireturn, 1) := by decide +kernel
theorem dX11_readMakes_21 : decode cX11_readMakes 21 = .ok (.aload_n 0, 1) := by decide +kernel
theorem dX11_readMakes_22 : decode cX11_readMakes 22 = .ok (.getfield 56, 3) := by decide +kernel
theorem dX11_readMakes_25 : decode cX11_readMakes 25 = .ok (.istore_n 1, 1) := by decide +kernel
theorem dX11_readMakes_26 : decode cX11_readMakes 26 = .ok (.aload_n 0, 1) := by decide +kernel
theorem dX11_readMakes_27 : decode cX11_readMakes 27 = .ok (.iconst 0, 1) := by decide +kernel
theorem dX11_readMakes_28 : decode cX11_readMakes 28 = .ok (.bipush 6, 2) := by decide +kernel
theorem dX11_readMakes_30 : decode cX11_readMakes 30 = .ok (.invokevirtual 59, 3) := by decide +kernel
theorem dX11_readMakes_33 : decode cX11_readMakes 33 = .ok (.ifCond .ne 5, 3) := by decide +kernel
theorem dX11_readMakes_36 : decode cX11_readMakes 36 = .ok (.iconst 0, 1) := by decide +kernel
theorem dX11_readMakes_37 : decode cX11_readMakes 37 = .ok (.ireturn, 1) := by decide +kernel
theorem dX11_readMakes_38 : decode cX11_readMakes 38 = .ok (.bipush 7, 2) := by decide +kernel
theorem dX11_readMakes_40 : decode cX11_readMakes 40 = .ok (.iload_n 1, 1) := by decide +kernel
theorem dX11_readMakes_41 : decode cX11_readMakes 41 = .ok (.imul, 1) := by decide +kernel
theorem dX11_readMakes_42 : decode cX11_readMakes 42 = .ok (.aload_n 0, 1) := by decide +kernel
theorem dX11_readMakes_43 : decode cX11_readMakes 43 = .ok (.getfield 56, 3) := by decide +kernel
theorem dX11_readMakes_46 : decode cX11_readMakes 46 = .ok (.iadd, 1) := by decide +kernel
theorem dX11_readMakes_47 : decode cX11_readMakes 47 = .ok (.istore_n 2, 1) := by decide +kernel
theorem dX11_readMakes_48 : decode cX11_readMakes 48 = .ok (.aload_n 0, 1) := by decide +kernel
theorem dX11_readMakes_49 : decode cX11_readMakes 49 = .ok (.getfield 144, 3) := by decide +kernel
theorem dX11_readMakes_52 : decode cX11_readMakes 52 = .ok (.iload_n 2, 1) := by decide +kernel
theorem dX11_readMakes_53 : decode cX11_readMakes 53 = .ok (.iaload, 1) := by decide +kernel
theorem dX11_readMakes_54 : decode cX11_readMakes 54 = .ok (.iconst (-1), 1) := by decide +kernel
theorem dX11_readMakes_55 : decode cX11_readMakes 55 = .ok (.if_icmp .eq 9, 3) := by decide +kernel
theorem dX11_readMakes_58 : decode cX11_readMakes 58 = .ok (.aload_n 0, 1) := by decide +kernel
theorem dX11_readMakes_59 : decode cX11_readMakes 59 = .ok (.iconst 3, 1) := by decide +kernel
theorem dX11_readMakes_60 : decode cX11_readMakes 60 = .ok (.invokevirtual 49, 3) := by decide +kernel
theorem dX11_readMakes_63 : decode cX11_readMakes 63 = .ok (.ireturn, 1) := by decide +kernel
theorem dX11_readMakes_64 : decode cX11_readMakes 64 = .ok (.aload_n 0, 1) := by decide +kernel
theorem dX11_readMakes_65 : decode cX11_readMakes 65 = .ok (.invokevirtual 63, 3) := by decide +kernel
theorem dX11_readMakes_68 : decode cX11_readMakes 68 = .ok (.aload_n 0, 1) := by decide +kernel
theorem dX11_readMakes_69 : decode cX11_readMakes 69 = .ok (.iconst 0, 1) := by decide +kernel
theorem dX11_readMakes_70 : decode cX11_readMakes 70 = .ok (.sipush 999, 3) := by decide +kernel
theorem dX11_readMakes_73 : decode cX11_readMakes 73 = .ok (.invokevirtual 81, 3) := by decide +kernel
theorem dX11_readMakes_76 : decode cX11_readMakes 76 = .ok (.ifCond .ne 5, 3) := by decide +kernel
theorem dX11_readMakes_79 : decode cX11_readMakes 79 = .ok (.iconst 0, 1) := by decide +kernel
theorem dX11_readMakes_80 : decode cX11_readMakes 80 = .ok (.ireturn, 1) := by decide +kernel
theorem dX11_readMakes_81 : decode cX11_readMakes 81 = .ok (.aload_n 0, 1) := by decide +kernel
theorem dX11_readMakes_82 : decode cX11_readMakes 82 = .ok (.getfield 144, 3) := by decide +kernel
theorem dX11_readMakes_85 : decode cX11_readMakes 85 = .ok (.iload_n 2, 1) := by decide +kernel
theorem dX11_readMakes_86 : decode cX11_readMakes 86 = .ok (.aload_n 0, 1) := by decide +kernel
theorem dX11_readMakes_87 : decode cX11_readMakes 87 = .ok (.getfield 56, 3) := by decide +kernel
theorem dX11_readMakes_90 : decode cX11_readMakes 90 = .ok (.iastore, 1) := by decide +kernel
theorem dX11_readMakes_91 : decode cX11_readMakes 91 = .ok (.iconst 1, 1) := by decide +kernel
theorem dX11_readMakes_92 : decode cX11_readMakes 92 = .ok (.ireturn, 1) := by decide +kernel
theorem dX11_readWants_0 : decode cX11_readWants 0 = .ok (.aload_n 0, 1) := by decide +kernel
theorem dX11_readWants_1 : decode cX11_readWants 1 = .ok (.invokevirtual 63, 3) := by decide +kernel
theorem dX11_readWants_4 : decode cX11_readWants 4 = .ok (.aload_n 0, 1) := by decide +kernel
theorem dX11_readWants_5 : decode cX11_readWants 5 = .ok (.aload_n 0, 1) := by decide +kernel
theorem dX11_readWants_6 : decode cX11_readWants 6 = .ok (.getfield 91, 3) := by decide +kernel
theorem dX11_readWants_9 : decode cX11_readWants 9 = .ok (.aload_n 0, 1) := by decide +kernel
theorem dX11_readWants_10 : decode cX11_readWants 10 = .ok (.getfield 88, 3) := by decide +kernel
theorem dX11_readWants_13 : decode cX11_readWants 13 = .ok (.invokevirtual 147, 3) := by decide +kernel
theorem dX11_readWants_16 : decode cX11_readWants 16 = .ok (.ifCond .ne 5, 3) := by decide +kernel
theorem dX11_readWants_19 : decode cX11_readWants 19 = .ok (.iconst 0, 1) := by decide +kernel
theorem dX11_readWants_20 : decode cX11_readWants 20 = .ok (.ireturn, 1) := by decide +kernel
theorem dX11_readWants_21 : decode cX11_readWants 21 = .ok (.aload_n 0, 1) := by decide +kernel
theorem dX11_readWants_22 : decode cX11_readWants 22 = .ok (.getfield 56, 3) := by decide +kernel
theorem dX11_readWants_25 : decode cX11_readWants 25 = .ok (.istore_n 1, 1) := by decide +kernel
theorem dX11_readWants_26 : decode cX11_readWants 26 = .ok (.aload_n 0, 1) := by decide +kernel
theorem dX11_readWants_27 : decode cX11_readWants 27 = .ok (.aload_n 0, 1) := by decide +kernel
theorem dX11_readWants_28 : decode cX11_readWants 28 = .ok (.getfield 129, 3) := by decide +kernel
theorem dX11_readWants_31 : decode cX11_readWants 31 = .ok (.aload_n 0, 1) := by decide +kernel
theorem dX11_readWants_32 : decode cX11_readWants 32 = .ok (.getfield 126, 3) := by decide +kernel
theorem dX11_readWants_35 : decode cX11_readWants 35 = .ok (.invokevirtual 147, 3) := by decide +kernel
theorem dX11_readWants_38 : decode cX11_readWants 38 = .ok (.ifCond .ne 5, 3) := by decide +kernel
theorem dX11_readWants_41 : decode cX11_readWants 41 = .ok (.iconst 0, 1) := by decide +kernel
theorem dX11_readWants_42 : decode cX11_readWants 42 = .ok (.ireturn, 1) := by decide +kernel
theorem dX11_readWants_43 : decode cX11_readWants 43 = .ok (.aload_n 0, 1) := by decide +kernel
theorem dX11_readWants_44 : decode cX11_readWants 44 = .ok (.getfield 56, 3) := by decide +kernel
theorem dX11_readWants_47 : decode cX11_readWants 47 = .ok (.istore_n 2, 1) := by decide +kernel
theorem dX11_readWants_48 : decode cX11_readWants 48 = .ok (.aload_n 0, 1) := by decide +kernel
theorem dX11_readWants_49 : decode cX11_readWants 49 = .ok (.iconst 0, 1) := by decide +kernel
theorem dX11_readWants_50 : decode cX11_readWants 50 = .ok (.bipush 6, 2) := by decide +kernel
theorem dX11_readWants_52 : decode cX11_readWants 52 = .ok (.invokevirtual 59, 3) := by decide +kernel
theorem dX11_readWants_55 : decode cX11_readWants 55 = .ok (.ifCond .ne 5, 3) := by decide +kernel
theorem dX11_readWants_58 : decode cX11_readWants 58 = .ok (.iconst 0, 1) := by decide +kernel
theorem dX11_readWants_59 : decode cX11_readWants 59 = .ok (.ireturn, 1) := by decide +kernel
theorem dX11_readWants_60 : decode cX11_readWants 60 = .ok (.bipush 7, 2) := by decide +kernel
theorem dX11_readWants_62 : decode cX11_readWants 62 = .ok (.iload_n 1, 1) := by decide +kernel
theorem dX11_readWants_63 : decode cX11_readWants 63 = .ok (.imul, 1) := by decide +kernel
theorem dX11_readWants_64 : decode cX11_readWants 64 = .ok (.aload_n 0, 1) := by decide +kernel
theorem dX11_readWants_65 : decode cX11_readWants 65 = .ok (.getfield 56, 3) := by decide +kernel
theorem dX11_readWants_68 : decode cX11_readWants 68 = .ok (.iadd, 1) := by decide +kernel
theorem dX11_readWants_69 : decode cX11_readWants 69 = .ok (.istore_n 3, 1) := by decide +kernel
theorem dX11_readWants_70 : decode cX11_readWants 70 = .ok (.aload_n 0, 1) := by decide +kernel
theorem dX11_readWants_71 : decode cX11_readWants 71 = .ok (.getfield 117, 3) := by decide +kernel
theorem dX11_readWants_74 : decode cX11_readWants 74 = .ok (.iload_n 3, 1) := by decide +kernel
theorem dX11_readWants_75 : decode cX11_readWants 75 = .ok (.iaload, 1) := by decide +kernel
theorem dX11_readWants_76 : decode cX11_readWants 76 = .ok (.iconst (-1), 1) := by decide +kernel
theorem dX11_readWants_77 : decode cX11_readWants 77 = .ok (.if_icmp .eq 9, 3) := by decide +kernel
theorem dX11_readWants_80 : decode cX11_readWants 80 = .ok (.aload_n 0, 1) := by decide +kernel
theorem dX11_readWants_81 : decode cX11_readWants 81 = .ok (.iconst 3, 1) := by decide +kernel
theorem dX11_readWants_82 : decode cX11_readWants 82 = .ok (.invokevirtual 49, 3) := by decide +kernel
theorem dX11_readWants_85 : decode cX11_readWants 85 = .ok (.ireturn, 1) := by decide +kernel
theorem dX11_readWants_86 : decode cX11_readWants 86 = .ok (.aload_n 0, 1) := by decide +kernel
theorem dX11_readWants_87 : decode cX11_readWants 87 = .ok (.invokevirtual 63, 3) := by decide +kernel
theorem dX11_readWants_90 : decode cX11_readWants 90 = .ok (.aload_n 0, 1) := by decide +kernel
theorem dX11_readWants_91 : decode cX11_readWants 91 = .ok (.iconst 1, 1) := by decide +kernel
theorem dX11_readWants_92 : decode cX11_readWants 92 = .ok (.iconst 3, 1) := by decide +kernel
theorem dX11_readWants_93 : decode cX11_readWants 93 = .ok (.invokevirtual 81, 3) := by decide +kernel
theorem dX11_readWants_96 : decode cX11_readWants 96 = .ok (.ifCond .ne 5, 3) := by decide +kernel
theorem dX11_readWants_99 : decode cX11_readWants 99 = .ok (.iconst 0, 1) := by decide +kernel
theorem dX11_readWants_100 : decode cX11_readWants 100 = .ok (.ireturn, 1) := by decide +kernel
theorem dX11_readWants_101 : decode cX11_readWants 101 = .ok (.aload_n 0, 1) := by decide +kernel
theorem dX11_readWants_102 : decode cX11_readWants 102 = .ok (.getfield 120, 3) := by decide +kernel
theorem dX11_readWants_105 : decode cX11_readWants 105 = .ok (.iload_n 3, 1) := by decide +kernel
theorem dX11_readWants_106 : decode cX11_readWants 106 = .ok (.aload_n 0, 1) := by decide +kernel
theorem dX11_readWants_107 : decode cX11_readWants 107 = .ok (.getfield 56, 3) := by decide +kernel
theorem dX11_readWants_110 : decode cX11_readWants 110 = .ok (.iastore, 1) := by decide +kernel
theorem dX11_readWants_111 : decode cX11_readWants 111 = .ok (.aload_n 0, 1) := by decide +kernel
theorem dX11_readWants_112 : decode cX11_readWants 112 = .ok (.iconst 0, 1) := by decide +kernel
theorem dX11_readWants_113 : decode cX11_readWants 113 = .ok (.bipush 99, 2) := by decide +kernel
theorem dX11_readWants_115 : decode cX11_readWants 115 = .ok (.invokevirtual 81, 3) := by decide +kernel
theorem dX11_readWants_118 : decode cX11_readWants 118 = .ok (.ifCond .ne 5, 3) := by decide +kernel
theorem dX11_readWants_121 : decode cX11_readWants 121 = .ok (.iconst 0, 1) := by decide +kernel
theorem dX11_readWants_122 : decode cX11_readWants 122 = .ok (.ireturn, 1) := by decide +kernel
theorem dX11_readWants_123 : decode cX11_readWants 123 = .ok (.aload_n 0, 1) := by decide +kernel
theorem dX11_readWants_124 : decode cX11_readWants 124 = .ok (.getfield 123, 3) := by decide +kernel
theorem dX11_readWants_127 : decode cX11_readWants 127 = .ok (.iload_n 3, 1) := by decide +kernel
theorem dX11_readWants_128 : decode cX11_readWants 128 = .ok (.aload_n 0, 1) := by decide +kernel
theorem dX11_readWants_129 : decode cX11_readWants 129 = .ok (.getfield 56, 3) := by decide +kernel
theorem dX11_readWants_132 : decode cX11_readWants 132 = .ok (.iastore, 1) := by decide +kernel
theorem dX11_readWants_133 : decode cX11_readWants 133 = .ok (.aload_n 0, 1) := by decide +kernel
theorem dX11_readWants_134 : decode cX11_readWants 134 = .ok (.getfield 117, 3) := by decide +kernel
theorem dX11_readWants_137 : decode cX11_readWants 137 = .ok (.iload_n 3, 1) := by decide +kernel
theorem dX11_readWants_138 : decode cX11_readWants 138 = .ok (.iload_n 2, 1) := by decide +kernel
theorem dX11_readWants_139 : decode cX11_readWants 139 = .ok (.iastore, 1) := by decide +kernel
theorem dX11_readWants_140 : decode cX11_readWants 140 = .ok (.iconst 1, 1) := by decide +kernel
theorem dX11_readWants_141 : decode cX11_readWants 141 = .ok (.ireturn, 1) := by decide +kernel
theorem dX11_readIlls_0 : decode cX11_readIlls 0 = .ok (.aload_n 0, 1) := by decide +kernel
theorem dX11_readIlls_1 : decode cX11_readIlls 1 = .ok (.invokevirtual 63, 3) := by decide +kernel
theorem dX11_readIlls_4 : decode cX11_readIlls 4 = .ok (.aload_n 0, 1) := by decide +kernel
theorem dX11_readIlls_5 : decode cX11_readIlls 5 = .ok (.getfield 27, 3) := by decide +kernel
theorem dX11_readIlls_8 : decode cX11_readIlls 8 = .ok (.iconst 1, 1) := by decide +kernel
theorem dX11_readIlls_9 : decode cX11_readIlls 9 = .ok (.if_icmp .eq 9, 3) := by decide +kernel
theorem dX11_readIlls_12 : decode cX11_readIlls 12 = .ok (.aload_n 0, 1) := by decide +kernel
theorem dX11_readIlls_13 : decode cX11_readIlls 13 = .ok (.iconst 1, 1) := by decide +kernel
theorem dX11_readIlls_14 : decode cX11_readIlls 14 = .ok (.invokevirtual 49, 3) := by decide +kernel
theorem dX11_readIlls_17 : decode cX11_readIlls 17 = .ok (.ireturn, 1) := by decide +kernel
theorem dX11_readIlls_18 : decode cX11_readIlls 18 = .ok (.aload_n 0, 1) := by decide +kernel
theorem dX11_readIlls_19 : decode cX11_readIlls 19 = .ok (.aload_n 0, 1) := by decide +kernel
theorem dX11_readIlls_20 : decode cX11_readIlls 20 = .ok (.getfield 91, 3) := by decide +kernel
theorem dX11_readIlls_23 : decode cX11_readIlls 23 = .ok (.aload_n 0, 1) := by decide +kernel
theorem dX11_readIlls_24 : decode cX11_readIlls 24 = .ok (.getfield 88, 3) := by decide +kernel
theorem dX11_readIlls_27 : decode cX11_readIlls 27 = .ok (.invokevirtual 71, 3) := by decide +kernel
theorem dX11_readIlls_30 : decode cX11_readIlls 30 = .ok (.istore_n 1, 1) := by decide +kernel
theorem dX11_readIlls_31 : decode cX11_readIlls 31 = .ok (.iload_n 1, 1) := by decide +kernel
theorem dX11_readIlls_32 : decode cX11_readIlls 32 = .ok (.iconst (-1), 1) := by decide +kernel
theorem dX11_readIlls_33 : decode cX11_readIlls 33 = .ok (.if_icmp .eq 18, 3) := by decide +kernel
theorem dX11_readIlls_36 : decode cX11_readIlls 36 = .ok (.aload_n 0, 1) := by decide +kernel
theorem dX11_readIlls_37 : decode cX11_readIlls 37 = .ok (.getfield 108, 3) := by decide +kernel
theorem dX11_readIlls_40 : decode cX11_readIlls 40 = .ok (.iload_n 1, 1) := by decide +kernel
theorem dX11_readIlls_41 : decode cX11_readIlls 41 = .ok (.iaload, 1) := by decide +kernel
theorem dX11_readIlls_42 : decode cX11_readIlls 42 = .ok (.ifCond .eq 9, 3) := by decide +kernel
theorem dX11_readIlls_45 : decode cX11_readIlls 45 = .ok (.aload_n 0, 1) := by decide +kernel
theorem dX11_readIlls_46 : decode cX11_readIlls 46 = .ok (.iconst 3, 1) := by decide +kernel
theorem dX11_readIlls_47 : decode cX11_readIlls 47 = .ok (.invokevirtual 49, 3) := by decide +kernel
theorem dX11_readIlls_50 : decode cX11_readIlls 50 = .ok (.ireturn, 1) := by decide +kernel
theorem dX11_readIlls_51 : decode cX11_readIlls 51 = .ok (.iload_n 1, 1) := by decide +kernel
theorem dX11_readIlls_52 : decode cX11_readIlls 52 = .ok (.iconst (-1), 1) := by decide +kernel
theorem dX11_readIlls_53 : decode cX11_readIlls 53 = .ok (.if_icmp .ne 9, 3) := by decide +kernel
theorem dX11_readIlls_56 : decode cX11_readIlls 56 = .ok (.aload_n 0, 1) := by decide +kernel
theorem dX11_readIlls_57 : decode cX11_readIlls 57 = .ok (.iconst 5, 1) := by decide +kernel
theorem dX11_readIlls_58 : decode cX11_readIlls 58 = .ok (.invokevirtual 49, 3) := by decide +kernel
theorem dX11_readIlls_61 : decode cX11_readIlls 61 = .ok (.ireturn, 1) := by decide +kernel
theorem dX11_readIlls_62 : decode cX11_readIlls 62 = .ok (.aload_n 0, 1) := by decide +kernel
theorem dX11_readIlls_63 : decode cX11_readIlls 63 = .ok (.invokevirtual 63, 3) := by decide +kernel
theorem dX11_readIlls_66 : decode cX11_readIlls 66 = .ok (.aload_n 0, 1) := by decide +kernel
theorem dX11_readIlls_67 : decode cX11_readIlls 67 = .ok (.iconst 1, 1) := by decide +kernel
theorem dX11_readIlls_68 : decode cX11_readIlls 68 = .ok (.bipush 127, 2) := by decide +kernel
theorem dX11_readIlls_70 : decode cX11_readIlls 70 = .ok (.invokevirtual 81, 3) := by decide +kernel
theorem dX11_readIlls_73 : decode cX11_readIlls 73 = .ok (.ifCond .ne 5, 3) := by decide +kernel
theorem dX11_readIlls_76 : decode cX11_readIlls 76 = .ok (.iconst 0, 1) := by decide +kernel
theorem dX11_readIlls_77 : decode cX11_readIlls 77 = .ok (.ireturn, 1) := by decide +kernel
theorem dX11_readIlls_78 : decode cX11_readIlls 78 = .ok (.aload_n 0, 1) := by decide +kernel
theorem dX11_readIlls_79 : decode cX11_readIlls 79 = .ok (.getfield 108, 3) := by decide +kernel
theorem dX11_readIlls_82 : decode cX11_readIlls 82 = .ok (.iload_n 1, 1) := by decide +kernel
theorem dX11_readIlls_83 : decode cX11_readIlls 83 = .ok (.aload_n 0, 1) := by decide +kernel
theorem dX11_readIlls_84 : decode cX11_readIlls 84 = .ok (.getfield 56, 3) := by decide +kernel
theorem dX11_readIlls_87 : decode cX11_readIlls 87 = .ok (.iastore, 1) := by decide +kernel
theorem dX11_readIlls_88 : decode cX11_readIlls 88 = .ok (.iconst 1, 1) := by decide +kernel
theorem dX11_readIlls_89 : decode cX11_readIlls 89 = .ok (.ireturn, 1) := by decide +kernel
theorem dX11_readOnce_0 : decode cX11_readOnce 0 = .ok (.aload_n 0, 1) := by decide +kernel
theorem dX11_readOnce_1 : decode cX11_readOnce 1 = .ok (.ldc 150, 2) := by decide +kernel
theorem dX11_readOnce_3 : decode cX11_readOnce 3 = .ok (.invokevirtual 152, 3) := by decide +kernel
theorem dX11_readOnce_6 : decode cX11_readOnce 6 = .ok (.istore_n 1, 1) := by decide +kernel
theorem dX11_readOnce_7 : decode cX11_readOnce 7 = .ok (.iload_n 1, 1) := by decide +kernel
theorem dX11_readOnce_8 : decode cX11_readOnce 8 = .ok (.ifCond .ne 18, 3) := by decide +kernel
theorem dX11_readOnce_11 : decode cX11_readOnce 11 = .ok (.aload_n 0, 1) := by decide +kernel
theorem dX11_readOnce_12 : decode cX11_readOnce 12 = .ok (.ldc 156, 2) := by decide +kernel
theorem dX11_readOnce_14 : decode cX11_readOnce 14 = .ok (.invokevirtual 152, 3) := by decide +kernel
theorem dX11_readOnce_17 : decode cX11_readOnce 17 = .ok (.ifCond .ne 9, 3) := by decide +kernel
theorem dX11_readOnce_20 : decode cX11_readOnce 20 = .ok (.aload_n 0, 1) := by decide +kernel
theorem dX11_readOnce_21 : decode cX11_readOnce 21 = .ok (.iconst 1, 1) := by decide +kernel
theorem dX11_readOnce_22 : decode cX11_readOnce 22 = .ok (.invokevirtual 49, 3) := by decide +kernel
theorem dX11_readOnce_25 : decode cX11_readOnce 25 = .ok (.ireturn, 1) := by decide +kernel
theorem dX11_readOnce_26 : decode cX11_readOnce 26 = .ok (.iload_n 1, 1) := by decide +kernel
theorem dX11_readOnce_27 : decode cX11_readOnce 27 = .ok (.ifCond .eq 14, 3) := by decide +kernel
theorem dX11_readOnce_30 : decode cX11_readOnce 30 = .ok (.aload_n 0, 1) := by decide +kernel
theorem dX11_readOnce_31 : decode cX11_readOnce 31 = .ok (.getfield 158, 3) := by decide +kernel
theorem dX11_readOnce_34 : decode cX11_readOnce 34 = .ok (.iconst (-1), 1) := by decide +kernel
theorem dX11_readOnce_35 : decode cX11_readOnce 35 = .ok (.if_icmp .eq 20, 3) := by decide +kernel
theorem dX11_readOnce_38 : decode cX11_readOnce 38 = .ok (.goto 11, 3) := by decide +kernel
theorem dX11_readOnce_41 : decode cX11_readOnce 41 = .ok (.aload_n 0, 1) := by decide +kernel
theorem dX11_readOnce_42 : decode cX11_readOnce 42 = .ok (.getfield 161, 3) := by decide +kernel
theorem dX11_readOnce_45 : decode cX11_readOnce 45 = .ok (.iconst (-1), 1) := by decide +kernel
theorem dX11_readOnce_46 : decode cX11_readOnce 46 = .ok (.if_icmp .eq 9, 3) := by decide +kernel
theorem dX11_readOnce_49 : decode cX11_readOnce 49 = .ok (.aload_n 0, 1) := by decide +kernel
theorem dX11_readOnce_50 : decode cX11_readOnce 50 = .ok (.iconst 3, 1) := by decide +kernel
theorem dX11_readOnce_51 : decode cX11_readOnce 51 = .ok (.invokevirtual 49, 3) := by decide +kernel
theorem dX11_readOnce_54 : decode cX11_readOnce 54 = .ok (.ireturn, 1) := by decide +kernel
theorem dX11_readOnce_55 : decode cX11_readOnce 55 = .ok (.aload_n 0, 1) := by decide +kernel
theorem dX11_readOnce_56 : decode cX11_readOnce 56 = .ok (.invokevirtual 63, 3) := by decide +kernel
theorem dX11_readOnce_59 : decode cX11_readOnce 59 = .ok (.iload_n 1, 1) := by decide +kernel
theorem dX11_readOnce_60 : decode cX11_readOnce 60 = .ok (.ifCond .eq 21, 3) := by decide +kernel
theorem dX11_readOnce_63 : decode cX11_readOnce 63 = .ok (.aload_n 0, 1) := by decide +kernel
theorem dX11_readOnce_64 : decode cX11_readOnce 64 = .ok (.aload_n 0, 1) := by decide +kernel
theorem dX11_readOnce_65 : decode cX11_readOnce 65 = .ok (.getfield 91, 3) := by decide +kernel
theorem dX11_readOnce_68 : decode cX11_readOnce 68 = .ok (.aload_n 0, 1) := by decide +kernel
theorem dX11_readOnce_69 : decode cX11_readOnce 69 = .ok (.getfield 88, 3) := by decide +kernel
theorem dX11_readOnce_72 : decode cX11_readOnce 72 = .ok (.invokevirtual 147, 3) := by decide +kernel
theorem dX11_readOnce_75 : decode cX11_readOnce 75 = .ok (.ifCond .eq 21, 3) := by decide +kernel
theorem dX11_readOnce_78 : decode cX11_readOnce 78 = .ok (.goto 20, 3) := by decide +kernel
theorem dX11_readOnce_81 : decode cX11_readOnce 81 = .ok (.aload_n 0, 1) := by decide +kernel
theorem dX11_readOnce_82 : decode cX11_readOnce 82 = .ok (.aload_n 0, 1) := by decide +kernel
theorem dX11_readOnce_83 : decode cX11_readOnce 83 = .ok (.getfield 129, 3) := by decide +kernel
theorem dX11_readOnce_86 : decode cX11_readOnce 86 = .ok (.aload_n 0, 1) := by decide +kernel
theorem dX11_readOnce_87 : decode cX11_readOnce 87 = .ok (.getfield 126, 3) := by decide +kernel
theorem dX11_readOnce_90 : decode cX11_readOnce 90 = .ok (.invokevirtual 147, 3) := by decide +kernel
theorem dX11_readOnce_93 : decode cX11_readOnce 93 = .ok (.ifCond .ne 5, 3) := by decide +kernel
theorem dX11_readOnce_96 : decode cX11_readOnce 96 = .ok (.iconst 0, 1) := by decide +kernel
theorem dX11_readOnce_97 : decode cX11_readOnce 97 = .ok (.ireturn, 1) := by decide +kernel
theorem dX11_readOnce_98 : decode cX11_readOnce 98 = .ok (.iload_n 1, 1) := by decide +kernel
theorem dX11_readOnce_99 : decode cX11_readOnce 99 = .ok (.ifCond .eq 14, 3) := by decide +kernel
theorem dX11_readOnce_102 : decode cX11_readOnce 102 = .ok (.aload_n 0, 1) := by decide +kernel
theorem dX11_readOnce_103 : decode cX11_readOnce 103 = .ok (.aload_n 0, 1) := by decide +kernel
theorem dX11_readOnce_104 : decode cX11_readOnce 104 = .ok (.getfield 56, 3) := by decide +kernel
theorem dX11_readOnce_107 : decode cX11_readOnce 107 = .ok (.putfield 158, 3) := by decide +kernel
theorem dX11_readOnce_110 : decode cX11_readOnce 110 = .ok (.goto 11, 3) := by decide +kernel
theorem dX11_readOnce_113 : decode cX11_readOnce 113 = .ok (.aload_n 0, 1) := by decide +kernel
theorem dX11_readOnce_114 : decode cX11_readOnce 114 = .ok (.aload_n 0, 1) := by decide +kernel
theorem dX11_readOnce_115 : decode cX11_readOnce 115 = .ok (.getfield 56, 3) := by decide +kernel
theorem dX11_readOnce_118 : decode cX11_readOnce 118 = .ok (.putfield 161, 3) := by decide +kernel
theorem dX11_readOnce_121 : decode cX11_readOnce 121 = .ok (.iconst 1, 1) := by decide +kernel
theorem dX11_readOnce_122 : decode cX11_readOnce 122 = .ok (.ireturn, 1) := by decide +kernel
theorem dX11_readClause_0 : decode cX11_readClause 0 = .ok (.aload_n 0, 1) := by decide +kernel
theorem dX11_readClause_1 : decode cX11_readClause 1 = .ok (.ldc 164, 2) := by decide +kernel
theorem dX11_readClause_3 : decode cX11_readClause 3 = .ok (.invokevirtual 152, 3) := by decide +kernel
theorem dX11_readClause_6 : decode cX11_readClause 6 = .ok (.ifCond .eq 8, 3) := by decide +kernel
theorem dX11_readClause_9 : decode cX11_readClause 9 = .ok (.aload_n 0, 1) := by decide +kernel
theorem dX11_readClause_10 : decode cX11_readClause 10 = .ok (.invokevirtual 166, 3) := by decide +kernel
theorem dX11_readClause_13 : decode cX11_readClause 13 = .ok (.ireturn, 1) := by decide +kernel
theorem dX11_readClause_14 : decode cX11_readClause 14 = .ok (.aload_n 0, 1) := by decide +kernel
theorem dX11_readClause_15 : decode cX11_readClause 15 = .ok (.ldc 169, 2) := by decide +kernel
theorem dX11_readClause_17 : decode cX11_readClause 17 = .ok (.invokevirtual 152, 3) := by decide +kernel
theorem dX11_readClause_20 : decode cX11_readClause 20 = .ok (.ifCond .eq 8, 3) := by decide +kernel
theorem dX11_readClause_23 : decode cX11_readClause 23 = .ok (.aload_n 0, 1) := by decide +kernel
theorem dX11_readClause_24 : decode cX11_readClause 24 = .ok (.invokevirtual 171, 3) := by decide +kernel
theorem dX11_readClause_27 : decode cX11_readClause 27 = .ok (.ireturn, 1) := by decide +kernel
theorem dX11_readClause_28 : decode cX11_readClause 28 = .ok (.aload_n 0, 1) := by decide +kernel
theorem dX11_readClause_29 : decode cX11_readClause 29 = .ok (.ldc 174, 2) := by decide +kernel
theorem dX11_readClause_31 : decode cX11_readClause 31 = .ok (.invokevirtual 152, 3) := by decide +kernel
theorem dX11_readClause_34 : decode cX11_readClause 34 = .ok (.ifCond .eq 8, 3) := by decide +kernel
theorem dX11_readClause_37 : decode cX11_readClause 37 = .ok (.aload_n 0, 1) := by decide +kernel
theorem dX11_readClause_38 : decode cX11_readClause 38 = .ok (.invokevirtual 176, 3) := by decide +kernel
theorem dX11_readClause_41 : decode cX11_readClause 41 = .ok (.ireturn, 1) := by decide +kernel
theorem dX11_readClause_42 : decode cX11_readClause 42 = .ok (.aload_n 0, 1) := by decide +kernel
theorem dX11_readClause_43 : decode cX11_readClause 43 = .ok (.ldc 179, 2) := by decide +kernel
theorem dX11_readClause_45 : decode cX11_readClause 45 = .ok (.invokevirtual 152, 3) := by decide +kernel
theorem dX11_readClause_48 : decode cX11_readClause 48 = .ok (.ifCond .eq 8, 3) := by decide +kernel
theorem dX11_readClause_51 : decode cX11_readClause 51 = .ok (.aload_n 0, 1) := by decide +kernel
theorem dX11_readClause_52 : decode cX11_readClause 52 = .ok (.invokevirtual 181, 3) := by decide +kernel
theorem dX11_readClause_55 : decode cX11_readClause 55 = .ok (.ireturn, 1) := by decide +kernel
theorem dX11_readClause_56 : decode cX11_readClause 56 = .ok (.aload_n 0, 1) := by decide +kernel
theorem dX11_readClause_57 : decode cX11_readClause 57 = .ok (.ldc 184, 2) := by decide +kernel
theorem dX11_readClause_59 : decode cX11_readClause 59 = .ok (.invokevirtual 152, 3) := by decide +kernel
theorem dX11_readClause_62 : decode cX11_readClause 62 = .ok (.ifCond .eq 8, 3) := by decide +kernel
theorem dX11_readClause_65 : decode cX11_readClause 65 = .ok (.aload_n 0, 1) := by decide +kernel
theorem dX11_readClause_66 : decode cX11_readClause 66 = .ok (.invokevirtual 186, 3) := by decide +kernel
theorem dX11_readClause_69 : decode cX11_readClause 69 = .ok (.ireturn, 1) := by decide +kernel
theorem dX11_readClause_70 : decode cX11_readClause 70 = .ok (.aload_n 0, 1) := by decide +kernel
theorem dX11_readClause_71 : decode cX11_readClause 71 = .ok (.ldc 189, 2) := by decide +kernel
theorem dX11_readClause_73 : decode cX11_readClause 73 = .ok (.invokevirtual 152, 3) := by decide +kernel
theorem dX11_readClause_76 : decode cX11_readClause 76 = .ok (.ifCond .eq 8, 3) := by decide +kernel
theorem dX11_readClause_79 : decode cX11_readClause 79 = .ok (.aload_n 0, 1) := by decide +kernel
theorem dX11_readClause_80 : decode cX11_readClause 80 = .ok (.invokevirtual 191, 3) := by decide +kernel
theorem dX11_readClause_83 : decode cX11_readClause 83 = .ok (.ireturn, 1) := by decide +kernel
theorem dX11_readClause_84 : decode cX11_readClause 84 = .ok (.aload_n 0, 1) := by decide +kernel
theorem dX11_readClause_85 : decode cX11_readClause 85 = .ok (.ldc 194, 2) := by decide +kernel
theorem dX11_readClause_87 : decode cX11_readClause 87 = .ok (.invokevirtual 152, 3) := by decide +kernel
theorem dX11_readClause_90 : decode cX11_readClause 90 = .ok (.ifCond .eq 8, 3) := by decide +kernel
theorem dX11_readClause_93 : decode cX11_readClause 93 = .ok (.aload_n 0, 1) := by decide +kernel
theorem dX11_readClause_94 : decode cX11_readClause 94 = .ok (.invokevirtual 196, 3) := by decide +kernel
theorem dX11_readClause_97 : decode cX11_readClause 97 = .ok (.ireturn, 1) := by decide +kernel
theorem dX11_readClause_98 : decode cX11_readClause 98 = .ok (.aload_n 0, 1) := by decide +kernel
theorem dX11_readClause_99 : decode cX11_readClause 99 = .ok (.ldc 199, 2) := by decide +kernel
theorem dX11_readClause_101 : decode cX11_readClause 101 = .ok (.invokevirtual 152, 3) := by decide +kernel
theorem dX11_readClause_104 : decode cX11_readClause 104 = .ok (.ifCond .eq 10, 3) := by decide +kernel
theorem dX11_readClause_107 : decode cX11_readClause 107 = .ok (.aload_n 0, 1) := by decide +kernel
theorem dX11_readClause_108 : decode cX11_readClause 108 = .ok (.invokevirtual 201, 3) := by decide +kernel
theorem dX11_readClause_111 : decode cX11_readClause 111 = .ok (.goto 7, 3) := by decide +kernel
theorem dX11_readClause_114 : decode cX11_readClause 114 = .ok (.aload_n 0, 1) := by decide +kernel
theorem dX11_readClause_115 : decode cX11_readClause 115 = .ok (.invokevirtual 204, 3) := by decide +kernel
theorem dX11_readClause_118 : decode cX11_readClause 118 = .ok (.ireturn, 1) := by decide +kernel
theorem dX11_readTown_0 : decode cX11_readTown 0 = .ok (.aload_n 0, 1) := by decide +kernel
theorem dX11_readTown_1 : decode cX11_readTown 1 = .ok (.iconst 0, 1) := by decide +kernel
theorem dX11_readTown_2 : decode cX11_readTown 2 = .ok (.putfield 88, 3) := by decide +kernel
theorem dX11_readTown_5 : decode cX11_readTown 5 = .ok (.aload_n 0, 1) := by decide +kernel
theorem dX11_readTown_6 : decode cX11_readTown 6 = .ok (.iconst 0, 1) := by decide +kernel
theorem dX11_readTown_7 : decode cX11_readTown 7 = .ok (.putfield 126, 3) := by decide +kernel
theorem dX11_readTown_10 : decode cX11_readTown 10 = .ok (.aload_n 0, 1) := by decide +kernel
theorem dX11_readTown_11 : decode cX11_readTown 11 = .ok (.iconst (-1), 1) := by decide +kernel
theorem dX11_readTown_12 : decode cX11_readTown 12 = .ok (.putfield 158, 3) := by decide +kernel
theorem dX11_readTown_15 : decode cX11_readTown 15 = .ok (.aload_n 0, 1) := by decide +kernel
theorem dX11_readTown_16 : decode cX11_readTown 16 = .ok (.iconst (-1), 1) := by decide +kernel
theorem dX11_readTown_17 : decode cX11_readTown 17 = .ok (.putfield 161, 3) := by decide +kernel
theorem dX11_readTown_20 : decode cX11_readTown 20 = .ok (.aload_n 0, 1) := by decide +kernel
theorem dX11_readTown_21 : decode cX11_readTown 21 = .ok (.iconst 0, 1) := by decide +kernel
theorem dX11_readTown_22 : decode cX11_readTown 22 = .ok (.putfield 78, 3) := by decide +kernel
theorem dX11_readTown_25 : decode cX11_readTown 25 = .ok (.aload_n 0, 1) := by decide +kernel
theorem dX11_readTown_26 : decode cX11_readTown 26 = .ok (.iconst 0, 1) := by decide +kernel
theorem dX11_readTown_27 : decode cX11_readTown 27 = .ok (.putfield 207, 3) := by decide +kernel
theorem dX11_readTown_30 : decode cX11_readTown 30 = .ok (.iconst 0, 1) := by decide +kernel
theorem dX11_readTown_31 : decode cX11_readTown 31 = .ok (.istore_n 1, 1) := by decide +kernel
theorem dX11_readTown_32 : decode cX11_readTown 32 = .ok (.iload_n 1, 1) := by decide +kernel
theorem dX11_readTown_33 : decode cX11_readTown 33 = .ok (.bipush 7, 2) := by decide +kernel
theorem dX11_readTown_35 : decode cX11_readTown 35 = .ok (.if_icmp .ge 16, 3) := by decide +kernel
theorem dX11_readTown_38 : decode cX11_readTown 38 = .ok (.aload_n 0, 1) := by decide +kernel
theorem dX11_readTown_39 : decode cX11_readTown 39 = .ok (.getfield 84, 3) := by decide +kernel
theorem dX11_readTown_42 : decode cX11_readTown 42 = .ok (.iload_n 1, 1) := by decide +kernel
theorem dX11_readTown_43 : decode cX11_readTown 43 = .ok (.iconst 0, 1) := by decide +kernel
theorem dX11_readTown_44 : decode cX11_readTown 44 = .ok (.iastore, 1) := by decide +kernel
theorem dX11_readTown_45 : decode cX11_readTown 45 = .ok (.iinc 1 1, 3) := by decide +kernel
theorem dX11_readTown_48 : decode cX11_readTown 48 = .ok (.goto (-16), 3) := by decide +kernel
theorem dX11_readTown_51 : decode cX11_readTown 51 = .ok (.aload_n 0, 1) := by decide +kernel
theorem dX11_readTown_52 : decode cX11_readTown 52 = .ok (.getfield 27, 3) := by decide +kernel
theorem dX11_readTown_55 : decode cX11_readTown 55 = .ok (.ifCond .eq 32, 3) := by decide +kernel
theorem dX11_readTown_58 : decode cX11_readTown 58 = .ok (.aload_n 0, 1) := by decide +kernel
theorem dX11_readTown_59 : decode cX11_readTown 59 = .ok (.invokevirtual 210, 3) := by decide +kernel
theorem dX11_readTown_62 : decode cX11_readTown 62 = .ok (.ifCond .eq 10, 3) := by decide +kernel
theorem dX11_readTown_65 : decode cX11_readTown 65 = .ok (.aload_n 0, 1) := by decide +kernel
theorem dX11_readTown_66 : decode cX11_readTown 66 = .ok (.invokevirtual 213, 3) := by decide +kernel
theorem dX11_readTown_69 : decode cX11_readTown 69 = .ok (.ifCond .ne 5, 3) := by decide +kernel
theorem dX11_readTown_72 : decode cX11_readTown 72 = .ok (.iconst 0, 1) := by decide +kernel
theorem dX11_readTown_73 : decode cX11_readTown 73 = .ok (.ireturn, 1) := by decide +kernel
theorem dX11_readTown_74 : decode cX11_readTown 74 = .ok (.aload_n 0, 1) := by decide +kernel
theorem dX11_readTown_75 : decode cX11_readTown 75 = .ok (.dup, 1) := by decide +kernel
theorem dX11_readTown_76 : decode cX11_readTown 76 = .ok (.getfield 207, 3) := by decide +kernel
theorem dX11_readTown_79 : decode cX11_readTown 79 = .ok (.iconst 1, 1) := by decide +kernel
theorem dX11_readTown_80 : decode cX11_readTown 80 = .ok (.iadd, 1) := by decide +kernel
theorem dX11_readTown_81 : decode cX11_readTown 81 = .ok (.putfield 207, 3) := by decide +kernel
theorem dX11_readTown_84 : decode cX11_readTown 84 = .ok (.goto (-33), 3) := by decide +kernel
theorem dX11_readTown_87 : decode cX11_readTown 87 = .ok (.iconst 1, 1) := by decide +kernel
theorem dX11_readTown_88 : decode cX11_readTown 88 = .ok (.ireturn, 1) := by decide +kernel
theorem dX11_copy_0 : decode cX11_copy 0 = .ok (.iconst 0, 1) := by decide +kernel
theorem dX11_copy_1 : decode cX11_copy 1 = .ok (.istore_n 2, 1) := by decide +kernel
theorem dX11_copy_2 : decode cX11_copy 2 = .ok (.iload_n 2, 1) := by decide +kernel
theorem dX11_copy_3 : decode cX11_copy 3 = .ok (.aload_n 0, 1) := by decide +kernel
theorem dX11_copy_4 : decode cX11_copy 4 = .ok (.arraylength, 1) := by decide +kernel
theorem dX11_copy_5 : decode cX11_copy 5 = .ok (.if_icmp .ge 15, 3) := by decide +kernel
theorem dX11_copy_8 : decode cX11_copy 8 = .ok (.aload_n 0, 1) := by decide +kernel
theorem dX11_copy_9 : decode cX11_copy 9 = .ok (.iload_n 2, 1) := by decide +kernel
theorem dX11_copy_10 : decode cX11_copy 10 = .ok (.aload_n 1, 1) := by decide +kernel
theorem dX11_copy_11 : decode cX11_copy 11 = .ok (.iload_n 2, 1) := by decide +kernel
theorem dX11_copy_12 : decode cX11_copy 12 = .ok (.iaload, 1) := by decide +kernel
theorem dX11_copy_13 : decode cX11_copy 13 = .ok (.iastore, 1) := by decide +kernel
theorem dX11_copy_14 : decode cX11_copy 14 = .ok (.iinc 2 1, 3) := by decide +kernel
theorem dX11_copy_17 : decode cX11_copy 17 = .ok (.goto (-15), 3) := by decide +kernel
theorem dX11_copy_20 : decode cX11_copy 20 = .ok (.return_, 1) := by decide +kernel
theorem dX11_init_0 : decode cX11_init 0 = .ok (.aload_n 0, 1) := by decide +kernel
theorem dX11_init_1 : decode cX11_init 1 = .ok (.invokespecial 216, 3) := by decide +kernel
theorem dX11_init_4 : decode cX11_init 4 = .ok (.aload_n 0, 1) := by decide +kernel
theorem dX11_init_5 : decode cX11_init 5 = .ok (.sipush 900, 3) := by decide +kernel
theorem dX11_init_8 : decode cX11_init 8 = .ok (.newarray .byte, 2) := by decide +kernel
theorem dX11_init_10 : decode cX11_init 10 = .ok (.putfield 16, 3) := by decide +kernel
theorem dX11_init_13 : decode cX11_init 13 = .ok (.aload_n 0, 1) := by decide +kernel
theorem dX11_init_14 : decode cX11_init 14 = .ok (.iconst (-1), 1) := by decide +kernel
theorem dX11_init_15 : decode cX11_init 15 = .ok (.putfield 10, 3) := by decide +kernel
theorem dX11_init_18 : decode cX11_init 18 = .ok (.aload_n 0, 1) := by decide +kernel
theorem dX11_init_19 : decode cX11_init 19 = .ok (.iconst (-1), 1) := by decide +kernel
theorem dX11_init_20 : decode cX11_init 20 = .ok (.putfield 221, 3) := by decide +kernel
theorem dX11_init_23 : decode cX11_init 23 = .ok (.aload_n 0, 1) := by decide +kernel
theorem dX11_init_24 : decode cX11_init 24 = .ok (.iconst (-1), 1) := by decide +kernel
theorem dX11_init_25 : decode cX11_init 25 = .ok (.putfield 224, 3) := by decide +kernel
theorem dX11_init_28 : decode cX11_init 28 = .ok (.aload_n 0, 1) := by decide +kernel
theorem dX11_init_29 : decode cX11_init 29 = .ok (.iconst 4, 1) := by decide +kernel
theorem dX11_init_30 : decode cX11_init 30 = .ok (.newarray .long, 2) := by decide +kernel
theorem dX11_init_32 : decode cX11_init 32 = .ok (.putfield 227, 3) := by decide +kernel
theorem dX11_init_35 : decode cX11_init 35 = .ok (.aload_n 0, 1) := by decide +kernel
theorem dX11_init_36 : decode cX11_init 36 = .ok (.iconst 3, 1) := by decide +kernel
theorem dX11_init_37 : decode cX11_init 37 = .ok (.newarray .long, 2) := by decide +kernel
theorem dX11_init_39 : decode cX11_init 39 = .ok (.putfield 230, 3) := by decide +kernel
theorem dX11_init_42 : decode cX11_init 42 = .ok (.aload_n 0, 1) := by decide +kernel
theorem dX11_init_43 : decode cX11_init 43 = .ok (.iconst 4, 1) := by decide +kernel
theorem dX11_init_44 : decode cX11_init 44 = .ok (.newarray .long, 2) := by decide +kernel
theorem dX11_init_46 : decode cX11_init 46 = .ok (.putfield 91, 3) := by decide +kernel
theorem dX11_init_49 : decode cX11_init 49 = .ok (.aload_n 0, 1) := by decide +kernel
theorem dX11_init_50 : decode cX11_init 50 = .ok (.iconst 3, 1) := by decide +kernel
theorem dX11_init_51 : decode cX11_init 51 = .ok (.newarray .long, 2) := by decide +kernel
theorem dX11_init_53 : decode cX11_init 53 = .ok (.putfield 129, 3) := by decide +kernel
theorem dX11_init_56 : decode cX11_init 56 = .ok (.aload_n 0, 1) := by decide +kernel
theorem dX11_init_57 : decode cX11_init 57 = .ok (.bipush 7, 2) := by decide +kernel
theorem dX11_init_59 : decode cX11_init 59 = .ok (.newarray .int, 2) := by decide +kernel
theorem dX11_init_61 : decode cX11_init 61 = .ok (.putfield 233, 3) := by decide +kernel
theorem dX11_init_64 : decode cX11_init 64 = .ok (.aload_n 0, 1) := by decide +kernel
theorem dX11_init_65 : decode cX11_init 65 = .ok (.bipush 7, 2) := by decide +kernel
theorem dX11_init_67 : decode cX11_init 67 = .ok (.newarray .int, 2) := by decide +kernel
theorem dX11_init_69 : decode cX11_init 69 = .ok (.putfield 84, 3) := by decide +kernel
theorem dX11_init_72 : decode cX11_init 72 = .ok (.aload_n 0, 1) := by decide +kernel
theorem dX11_init_73 : decode cX11_init 73 = .ok (.iconst 4, 1) := by decide +kernel
theorem dX11_init_74 : decode cX11_init 74 = .ok (.newarray .int, 2) := by decide +kernel
theorem dX11_init_76 : decode cX11_init 76 = .ok (.putfield 235, 3) := by decide +kernel
theorem dX11_init_79 : decode cX11_init 79 = .ok (.aload_n 0, 1) := by decide +kernel
theorem dX11_init_80 : decode cX11_init 80 = .ok (.iconst 4, 1) := by decide +kernel
theorem dX11_init_81 : decode cX11_init 81 = .ok (.newarray .int, 2) := by decide +kernel
theorem dX11_init_83 : decode cX11_init 83 = .ok (.putfield 238, 3) := by decide +kernel
theorem dX11_init_86 : decode cX11_init 86 = .ok (.aload_n 0, 1) := by decide +kernel
theorem dX11_init_87 : decode cX11_init 87 = .ok (.iconst 4, 1) := by decide +kernel
theorem dX11_init_88 : decode cX11_init 88 = .ok (.newarray .int, 2) := by decide +kernel
theorem dX11_init_90 : decode cX11_init 90 = .ok (.putfield 241, 3) := by decide +kernel
theorem dX11_init_93 : decode cX11_init 93 = .ok (.aload_n 0, 1) := by decide +kernel
theorem dX11_init_94 : decode cX11_init 94 = .ok (.iconst 4, 1) := by decide +kernel
theorem dX11_init_95 : decode cX11_init 95 = .ok (.newarray .int, 2) := by decide +kernel
theorem dX11_init_97 : decode cX11_init 97 = .ok (.putfield 244, 3) := by decide +kernel
theorem dX11_init_100 : decode cX11_init 100 = .ok (.aload_n 0, 1) := by decide +kernel
theorem dX11_init_101 : decode cX11_init 101 = .ok (.iconst 3, 1) := by decide +kernel
theorem dX11_init_102 : decode cX11_init 102 = .ok (.newarray .int, 2) := by decide +kernel
theorem dX11_init_104 : decode cX11_init 104 = .ok (.putfield 246, 3) := by decide +kernel
theorem dX11_init_107 : decode cX11_init 107 = .ok (.aload_n 0, 1) := by decide +kernel
theorem dX11_init_108 : decode cX11_init 108 = .ok (.iconst 3, 1) := by decide +kernel
theorem dX11_init_109 : decode cX11_init 109 = .ok (.newarray .int, 2) := by decide +kernel
theorem dX11_init_111 : decode cX11_init 111 = .ok (.putfield 249, 3) := by decide +kernel
theorem dX11_init_114 : decode cX11_init 114 = .ok (.aload_n 0, 1) := by decide +kernel
theorem dX11_init_115 : decode cX11_init 115 = .ok (.iconst 4, 1) := by decide +kernel
theorem dX11_init_116 : decode cX11_init 116 = .ok (.newarray .int, 2) := by decide +kernel
theorem dX11_init_118 : decode cX11_init 118 = .ok (.putfield 99, 3) := by decide +kernel
theorem dX11_init_121 : decode cX11_init 121 = .ok (.aload_n 0, 1) := by decide +kernel
theorem dX11_init_122 : decode cX11_init 122 = .ok (.iconst 4, 1) := by decide +kernel
theorem dX11_init_123 : decode cX11_init 123 = .ok (.newarray .int, 2) := by decide +kernel
theorem dX11_init_125 : decode cX11_init 125 = .ok (.putfield 102, 3) := by decide +kernel
theorem dX11_init_128 : decode cX11_init 128 = .ok (.aload_n 0, 1) := by decide +kernel
theorem dX11_init_129 : decode cX11_init 129 = .ok (.iconst 4, 1) := by decide +kernel
theorem dX11_init_130 : decode cX11_init 130 = .ok (.newarray .int, 2) := by decide +kernel
theorem dX11_init_132 : decode cX11_init 132 = .ok (.putfield 105, 3) := by decide +kernel
theorem dX11_init_135 : decode cX11_init 135 = .ok (.aload_n 0, 1) := by decide +kernel
theorem dX11_init_136 : decode cX11_init 136 = .ok (.iconst 4, 1) := by decide +kernel
theorem dX11_init_137 : decode cX11_init 137 = .ok (.newarray .int, 2) := by decide +kernel
theorem dX11_init_139 : decode cX11_init 139 = .ok (.putfield 108, 3) := by decide +kernel
theorem dX11_init_142 : decode cX11_init 142 = .ok (.aload_n 0, 1) := by decide +kernel
theorem dX11_init_143 : decode cX11_init 143 = .ok (.iconst 3, 1) := by decide +kernel
theorem dX11_init_144 : decode cX11_init 144 = .ok (.newarray .int, 2) := by decide +kernel
theorem dX11_init_146 : decode cX11_init 146 = .ok (.putfield 132, 3) := by decide +kernel
theorem dX11_init_149 : decode cX11_init 149 = .ok (.aload_n 0, 1) := by decide +kernel
theorem dX11_init_150 : decode cX11_init 150 = .ok (.iconst 3, 1) := by decide +kernel
theorem dX11_init_151 : decode cX11_init 151 = .ok (.newarray .int, 2) := by decide +kernel
theorem dX11_init_153 : decode cX11_init 153 = .ok (.putfield 135, 3) := by decide +kernel
theorem dX11_init_156 : decode cX11_init 156 = .ok (.aload_n 0, 1) := by decide +kernel
theorem dX11_init_157 : decode cX11_init 157 = .ok (.bipush 28, 2) := by decide +kernel
theorem dX11_init_159 : decode cX11_init 159 = .ok (.newarray .int, 2) := by decide +kernel
theorem dX11_init_161 : decode cX11_init 161 = .ok (.putfield 252, 3) := by decide +kernel
theorem dX11_init_164 : decode cX11_init 164 = .ok (.aload_n 0, 1) := by decide +kernel
theorem dX11_init_165 : decode cX11_init 165 = .ok (.bipush 21, 2) := by decide +kernel
theorem dX11_init_167 : decode cX11_init 167 = .ok (.newarray .int, 2) := by decide +kernel
theorem dX11_init_169 : decode cX11_init 169 = .ok (.putfield 254, 3) := by decide +kernel
theorem dX11_init_172 : decode cX11_init 172 = .ok (.aload_n 0, 1) := by decide +kernel
theorem dX11_init_173 : decode cX11_init 173 = .ok (.bipush 21, 2) := by decide +kernel
theorem dX11_init_175 : decode cX11_init 175 = .ok (.newarray .int, 2) := by decide +kernel
theorem dX11_init_177 : decode cX11_init 177 = .ok (.putfield 257, 3) := by decide +kernel
theorem dX11_init_180 : decode cX11_init 180 = .ok (.aload_n 0, 1) := by decide +kernel
theorem dX11_init_181 : decode cX11_init 181 = .ok (.bipush 21, 2) := by decide +kernel
theorem dX11_init_183 : decode cX11_init 183 = .ok (.newarray .int, 2) := by decide +kernel
theorem dX11_init_185 : decode cX11_init 185 = .ok (.putfield 259, 3) := by decide +kernel
theorem dX11_init_188 : decode cX11_init 188 = .ok (.aload_n 0, 1) := by decide +kernel
theorem dX11_init_189 : decode cX11_init 189 = .ok (.bipush 28, 2) := by decide +kernel
theorem dX11_init_191 : decode cX11_init 191 = .ok (.newarray .int, 2) := by decide +kernel
theorem dX11_init_193 : decode cX11_init 193 = .ok (.putfield 261, 3) := by decide +kernel
theorem dX11_init_196 : decode cX11_init 196 = .ok (.aload_n 0, 1) := by decide +kernel
theorem dX11_init_197 : decode cX11_init 197 = .ok (.bipush 28, 2) := by decide +kernel
theorem dX11_init_199 : decode cX11_init 199 = .ok (.newarray .int, 2) := by decide +kernel
theorem dX11_init_201 : decode cX11_init 201 = .ok (.putfield 264, 3) := by decide +kernel
theorem dX11_init_204 : decode cX11_init 204 = .ok (.aload_n 0, 1) := by decide +kernel
theorem dX11_init_205 : decode cX11_init 205 = .ok (.bipush 28, 2) := by decide +kernel
theorem dX11_init_207 : decode cX11_init 207 = .ok (.newarray .int, 2) := by decide +kernel
theorem dX11_init_209 : decode cX11_init 209 = .ok (.putfield 267, 3) := by decide +kernel
theorem dX11_init_212 : decode cX11_init 212 = .ok (.aload_n 0, 1) := by decide +kernel
theorem dX11_init_213 : decode cX11_init 213 = .ok (.bipush 28, 2) := by decide +kernel
theorem dX11_init_215 : decode cX11_init 215 = .ok (.newarray .int, 2) := by decide +kernel
theorem dX11_init_217 : decode cX11_init 217 = .ok (.putfield 114, 3) := by decide +kernel
theorem dX11_init_220 : decode cX11_init 220 = .ok (.aload_n 0, 1) := by decide +kernel
theorem dX11_init_221 : decode cX11_init 221 = .ok (.bipush 21, 2) := by decide +kernel
theorem dX11_init_223 : decode cX11_init 223 = .ok (.newarray .int, 2) := by decide +kernel
theorem dX11_init_225 : decode cX11_init 225 = .ok (.putfield 141, 3) := by decide +kernel
theorem dX11_init_228 : decode cX11_init 228 = .ok (.aload_n 0, 1) := by decide +kernel
theorem dX11_init_229 : decode cX11_init 229 = .ok (.bipush 21, 2) := by decide +kernel
theorem dX11_init_231 : decode cX11_init 231 = .ok (.newarray .int, 2) := by decide +kernel
theorem dX11_init_233 : decode cX11_init 233 = .ok (.putfield 144, 3) := by decide +kernel
theorem dX11_init_236 : decode cX11_init 236 = .ok (.aload_n 0, 1) := by decide +kernel
theorem dX11_init_237 : decode cX11_init 237 = .ok (.bipush 28, 2) := by decide +kernel
theorem dX11_init_239 : decode cX11_init 239 = .ok (.newarray .int, 2) := by decide +kernel
theorem dX11_init_241 : decode cX11_init 241 = .ok (.putfield 117, 3) := by decide +kernel
theorem dX11_init_244 : decode cX11_init 244 = .ok (.aload_n 0, 1) := by decide +kernel
theorem dX11_init_245 : decode cX11_init 245 = .ok (.bipush 28, 2) := by decide +kernel
theorem dX11_init_247 : decode cX11_init 247 = .ok (.newarray .int, 2) := by decide +kernel
theorem dX11_init_249 : decode cX11_init 249 = .ok (.putfield 120, 3) := by decide +kernel
theorem dX11_init_252 : decode cX11_init 252 = .ok (.aload_n 0, 1) := by decide +kernel
theorem dX11_init_253 : decode cX11_init 253 = .ok (.bipush 28, 2) := by decide +kernel
theorem dX11_init_255 : decode cX11_init 255 = .ok (.newarray .int, 2) := by decide +kernel
theorem dX11_init_257 : decode cX11_init 257 = .ok (.putfield 123, 3) := by decide +kernel
theorem dX11_init_260 : decode cX11_init 260 = .ok (.aload_n 0, 1) := by decide +kernel
theorem dX11_init_261 : decode cX11_init 261 = .ok (.iconst 4, 1) := by decide +kernel
theorem dX11_init_262 : decode cX11_init 262 = .ok (.newarray .int, 2) := by decide +kernel
theorem dX11_init_264 : decode cX11_init 264 = .ok (.putfield 111, 3) := by decide +kernel
theorem dX11_init_267 : decode cX11_init 267 = .ok (.aload_n 0, 1) := by decide +kernel
theorem dX11_init_268 : decode cX11_init 268 = .ok (.iconst 3, 1) := by decide +kernel
theorem dX11_init_269 : decode cX11_init 269 = .ok (.newarray .int, 2) := by decide +kernel
theorem dX11_init_271 : decode cX11_init 271 = .ok (.putfield 138, 3) := by decide +kernel
theorem dX11_init_274 : decode cX11_init 274 = .ok (.aload_n 0, 1) := by decide +kernel
theorem dX11_init_275 : decode cX11_init 275 = .ok (.sipush 10614, 3) := by decide +kernel
theorem dX11_init_278 : decode cX11_init 278 = .ok (.newarray .int, 2) := by decide +kernel
theorem dX11_init_280 : decode cX11_init 280 = .ok (.putfield 270, 3) := by decide +kernel
theorem dX11_init_283 : decode cX11_init 283 = .ok (.aload_n 0, 1) := by decide +kernel
theorem dX11_init_284 : decode cX11_init 284 = .ok (.iconst (-1), 1) := by decide +kernel
theorem dX11_init_285 : decode cX11_init 285 = .ok (.putfield 273, 3) := by decide +kernel
theorem dX11_init_288 : decode cX11_init 288 = .ok (.aload_n 0, 1) := by decide +kernel
theorem dX11_init_289 : decode cX11_init 289 = .ok (.sipush 10248, 3) := by decide +kernel
theorem dX11_init_292 : decode cX11_init 292 = .ok (.newarray .int, 2) := by decide +kernel
theorem dX11_init_294 : decode cX11_init 294 = .ok (.putfield 276, 3) := by decide +kernel
theorem dX11_init_297 : decode cX11_init 297 = .ok (.aload_n 0, 1) := by decide +kernel
theorem dX11_init_298 : decode cX11_init 298 = .ok (.bipush 28, 2) := by decide +kernel
theorem dX11_init_300 : decode cX11_init 300 = .ok (.newarray .boolean, 2) := by decide +kernel
theorem dX11_init_302 : decode cX11_init 302 = .ok (.putfield 279, 3) := by decide +kernel
theorem dX11_init_305 : decode cX11_init 305 = .ok (.aload_n 0, 1) := by decide +kernel
theorem dX11_init_306 : decode cX11_init 306 = .ok (.bipush 35, 2) := by decide +kernel
theorem dX11_init_308 : decode cX11_init 308 = .ok (.newarray .int, 2) := by decide +kernel
theorem dX11_init_310 : decode cX11_init 310 = .ok (.putfield 283, 3) := by decide +kernel
theorem dX11_init_313 : decode cX11_init 313 = .ok (.aload_n 0, 1) := by decide +kernel
theorem dX11_init_314 : decode cX11_init 314 = .ok (.bipush 35, 2) := by decide +kernel
theorem dX11_init_316 : decode cX11_init 316 = .ok (.newarray .int, 2) := by decide +kernel
theorem dX11_init_318 : decode cX11_init 318 = .ok (.putfield 286, 3) := by decide +kernel
theorem dX11_init_321 : decode cX11_init 321 = .ok (.aload_n 0, 1) := by decide +kernel
theorem dX11_init_322 : decode cX11_init 322 = .ok (.iconst 3, 1) := by decide +kernel
theorem dX11_init_323 : decode cX11_init 323 = .ok (.newarray .int, 2) := by decide +kernel
theorem dX11_init_325 : decode cX11_init 325 = .ok (.putfield 289, 3) := by decide +kernel
theorem dX11_init_328 : decode cX11_init 328 = .ok (.aload_n 0, 1) := by decide +kernel
theorem dX11_init_329 : decode cX11_init 329 = .ok (.bipush 21, 2) := by decide +kernel
theorem dX11_init_331 : decode cX11_init 331 = .ok (.newarray .int, 2) := by decide +kernel
theorem dX11_init_333 : decode cX11_init 333 = .ok (.putfield 292, 3) := by decide +kernel
theorem dX11_init_336 : decode cX11_init 336 = .ok (.aload_n 0, 1) := by decide +kernel
theorem dX11_init_337 : decode cX11_init 337 = .ok (.bipush 105, 2) := by decide +kernel
theorem dX11_init_339 : decode cX11_init 339 = .ok (.newarray .int, 2) := by decide +kernel
theorem dX11_init_341 : decode cX11_init 341 = .ok (.putfield 295, 3) := by decide +kernel
theorem dX11_init_344 : decode cX11_init 344 = .ok (.aload_n 0, 1) := by decide +kernel
theorem dX11_init_345 : decode cX11_init 345 = .ok (.iconst 3, 1) := by decide +kernel
theorem dX11_init_346 : decode cX11_init 346 = .ok (.newarray .long, 2) := by decide +kernel
theorem dX11_init_348 : decode cX11_init 348 = .ok (.putfield 298, 3) := by decide +kernel
theorem dX11_init_351 : decode cX11_init 351 = .ok (.aload_n 0, 1) := by decide +kernel
theorem dX11_init_352 : decode cX11_init 352 = .ok (.iconst 3, 1) := by decide +kernel
theorem dX11_init_353 : decode cX11_init 353 = .ok (.newarray .boolean, 2) := by decide +kernel
theorem dX11_init_355 : decode cX11_init 355 = .ok (.putfield 301, 3) := by decide +kernel
theorem dX11_init_358 : decode cX11_init 358 = .ok (.aload_n 0, 1) := by decide +kernel
theorem dX11_init_359 : decode cX11_init 359 = .ok (.iconst (-1), 1) := by decide +kernel
theorem dX11_init_360 : decode cX11_init 360 = .ok (.putfield 304, 3) := by decide +kernel
theorem dX11_init_363 : decode cX11_init 363 = .ok (.aload_n 0, 1) := by decide +kernel
theorem dX11_init_364 : decode cX11_init 364 = .ok (.sipush 2100, 3) := by decide +kernel
theorem dX11_init_367 : decode cX11_init 367 = .ok (.newarray .int, 2) := by decide +kernel
theorem dX11_init_369 : decode cX11_init 369 = .ok (.putfield 307, 3) := by decide +kernel
theorem dX11_init_372 : decode cX11_init 372 = .ok (.aload_n 0, 1) := by decide +kernel
theorem dX11_init_373 : decode cX11_init 373 = .ok (.iconst 4, 1) := by decide +kernel
theorem dX11_init_374 : decode cX11_init 374 = .ok (.newarray .int, 2) := by decide +kernel
theorem dX11_init_376 : decode cX11_init 376 = .ok (.putfield 310, 3) := by decide +kernel
theorem dX11_init_379 : decode cX11_init 379 = .ok (.aload_n 0, 1) := by decide +kernel
theorem dX11_init_380 : decode cX11_init 380 = .ok (.iconst 4, 1) := by decide +kernel
theorem dX11_init_381 : decode cX11_init 381 = .ok (.newarray .int, 2) := by decide +kernel
theorem dX11_init_383 : decode cX11_init 383 = .ok (.putfield 313, 3) := by decide +kernel
theorem dX11_init_386 : decode cX11_init 386 = .ok (.aload_n 0, 1) := by decide +kernel
theorem dX11_init_387 : decode cX11_init 387 = .ok (.bipush 8, 2) := by decide +kernel
theorem dX11_init_389 : decode cX11_init 389 = .ok (.newarray .int, 2) := by decide +kernel
theorem dX11_init_391 : decode cX11_init 391 = .ok (.putfield 316, 3) := by decide +kernel
theorem dX11_init_394 : decode cX11_init 394 = .ok (.iconst 0, 1) := by decide +kernel
theorem dX11_init_395 : decode cX11_init 395 = .ok (.istore_n 1, 1) := by decide +kernel
theorem dX11_init_396 : decode cX11_init 396 = .ok (.iload_n 1, 1) := by decide +kernel
theorem dX11_init_397 : decode cX11_init 397 = .ok (.iconst 4, 1) := by decide +kernel
theorem dX11_init_398 : decode cX11_init 398 = .ok (.if_icmp .ge 19, 3) := by decide +kernel
theorem dX11_init_401 : decode cX11_init 401 = .ok (.aload_n 0, 1) := by decide +kernel
theorem dX11_init_402 : decode cX11_init 402 = .ok (.getfield 283, 3) := by decide +kernel
theorem dX11_init_405 : decode cX11_init 405 = .ok (.bipush 28, 2) := by decide +kernel
theorem dX11_init_407 : decode cX11_init 407 = .ok (.iload_n 1, 1) := by decide +kernel
theorem dX11_init_408 : decode cX11_init 408 = .ok (.iadd, 1) := by decide +kernel
theorem dX11_init_409 : decode cX11_init 409 = .ok (.iconst 1, 1) := by decide +kernel
theorem dX11_init_410 : decode cX11_init 410 = .ok (.iastore, 1) := by decide +kernel
theorem dX11_init_411 : decode cX11_init 411 = .ok (.iinc 1 1, 3) := by decide +kernel
theorem dX11_init_414 : decode cX11_init 414 = .ok (.goto (-18), 3) := by decide +kernel
theorem dX11_init_417 : decode cX11_init 417 = .ok (.return_, 1) := by decide +kernel
theorem dX11_feed_0 : decode cX11_feed 0 = .ok (.aload_n 0, 1) := by decide +kernel
theorem dX11_feed_1 : decode cX11_feed 1 = .ok (.getfield 75, 3) := by decide +kernel
theorem dX11_feed_4 : decode cX11_feed 4 = .ok (.bipush 20, 2) := by decide +kernel
theorem dX11_feed_6 : decode cX11_feed 6 = .ok (.iadd, 1) := by decide +kernel
theorem dX11_feed_7 : decode cX11_feed 7 = .ok (.sipush 900, 3) := by decide +kernel
theorem dX11_feed_10 : decode cX11_feed 10 = .ok (.if_icmp .le 6, 3) := by decide +kernel
theorem dX11_feed_13 : decode cX11_feed 13 = .ok (.bipush (-3), 2) := by decide +kernel
theorem dX11_feed_15 : decode cX11_feed 15 = .ok (.ireturn, 1) := by decide +kernel
theorem dX11_feed_16 : decode cX11_feed 16 = .ok (.aload_n 0, 1) := by decide +kernel
theorem dX11_feed_17 : decode cX11_feed 17 = .ok (.iload_n 1, 1) := by decide +kernel
theorem dX11_feed_18 : decode cX11_feed 18 = .ok (.invokevirtual 319, 3) := by decide +kernel
theorem dX11_feed_21 : decode cX11_feed 21 = .ok (.aload_n 0, 1) := by decide +kernel
theorem dX11_feed_22 : decode cX11_feed 22 = .ok (.iload_n 2, 1) := by decide +kernel
theorem dX11_feed_23 : decode cX11_feed 23 = .ok (.invokevirtual 319, 3) := by decide +kernel
theorem dX11_feed_26 : decode cX11_feed 26 = .ok (.aload_n 0, 1) := by decide +kernel
theorem dX11_feed_27 : decode cX11_feed 27 = .ok (.iload_n 3, 1) := by decide +kernel
theorem dX11_feed_28 : decode cX11_feed 28 = .ok (.invokevirtual 319, 3) := by decide +kernel
theorem dX11_feed_31 : decode cX11_feed 31 = .ok (.aload_n 0, 1) := by decide +kernel
theorem dX11_feed_32 : decode cX11_feed 32 = .ok (.iload 4, 2) := by decide +kernel
theorem dX11_feed_34 : decode cX11_feed 34 = .ok (.invokevirtual 319, 3) := by decide +kernel
theorem dX11_feed_37 : decode cX11_feed 37 = .ok (.aload_n 0, 1) := by decide +kernel
theorem dX11_feed_38 : decode cX11_feed 38 = .ok (.iload 5, 2) := by decide +kernel
theorem dX11_feed_40 : decode cX11_feed 40 = .ok (.invokevirtual 319, 3) := by decide +kernel
theorem dX11_feed_43 : decode cX11_feed 43 = .ok (.aload_n 0, 1) := by decide +kernel
theorem dX11_feed_44 : decode cX11_feed 44 = .ok (.getfield 75, 3) := by decide +kernel
theorem dX11_feed_47 : decode cX11_feed 47 = .ok (.ireturn, 1) := by decide +kernel
theorem dX11_putFour_0 : decode cX11_putFour 0 = .ok (.bipush 24, 2) := by decide +kernel
theorem dX11_putFour_2 : decode cX11_putFour 2 = .ok (.istore_n 2, 1) := by decide +kernel
theorem dX11_putFour_3 : decode cX11_putFour 3 = .ok (.iload_n 2, 1) := by decide +kernel
theorem dX11_putFour_4 : decode cX11_putFour 4 = .ok (.ifCond .lt 32, 3) := by decide +kernel
theorem dX11_putFour_7 : decode cX11_putFour 7 = .ok (.aload_n 0, 1) := by decide +kernel
theorem dX11_putFour_8 : decode cX11_putFour 8 = .ok (.getfield 16, 3) := by decide +kernel
theorem dX11_putFour_11 : decode cX11_putFour 11 = .ok (.aload_n 0, 1) := by decide +kernel
theorem dX11_putFour_12 : decode cX11_putFour 12 = .ok (.getfield 75, 3) := by decide +kernel
theorem dX11_putFour_15 : decode cX11_putFour 15 = .ok (.iload_n 1, 1) := by decide +kernel
theorem dX11_putFour_16 : decode cX11_putFour 16 = .ok (.iload_n 2, 1) := by decide +kernel
theorem dX11_putFour_17 : decode cX11_putFour 17 = .ok (.ishr, 1) := by decide +kernel
theorem dX11_putFour_18 : decode cX11_putFour 18 = .ok (.i2b, 1) := by decide +kernel
theorem dX11_putFour_19 : decode cX11_putFour 19 = .ok (.bastore, 1) := by decide +kernel
theorem dX11_putFour_20 : decode cX11_putFour 20 = .ok (.aload_n 0, 1) := by decide +kernel
theorem dX11_putFour_21 : decode cX11_putFour 21 = .ok (.dup, 1) := by decide +kernel
theorem dX11_putFour_22 : decode cX11_putFour 22 = .ok (.getfield 75, 3) := by decide +kernel
theorem dX11_putFour_25 : decode cX11_putFour 25 = .ok (.iconst 1, 1) := by decide +kernel
theorem dX11_putFour_26 : decode cX11_putFour 26 = .ok (.iadd, 1) := by decide +kernel
theorem dX11_putFour_27 : decode cX11_putFour 27 = .ok (.putfield 75, 3) := by decide +kernel
theorem dX11_putFour_30 : decode cX11_putFour 30 = .ok (.iinc 2 (-8), 3) := by decide +kernel
theorem dX11_putFour_33 : decode cX11_putFour 33 = .ok (.goto (-30), 3) := by decide +kernel
theorem dX11_putFour_36 : decode cX11_putFour 36 = .ok (.return_, 1) := by decide +kernel
theorem dX11_end_0 : decode cX11_end 0 = .ok (.iload_n 1, 1) := by decide +kernel
theorem dX11_end_1 : decode cX11_end 1 = .ok (.i2l, 1) := by decide +kernel
theorem dX11_end_2 : decode cX11_end 2 = .ok (.lconst 0, 1) := by decide +kernel
theorem dX11_end_3 : decode cX11_end 3 = .ok (.aload_n 0, 1) := by decide +kernel
theorem dX11_end_4 : decode cX11_end 4 = .ok (.getfield 75, 3) := by decide +kernel
theorem dX11_end_7 : decode cX11_end 7 = .ok (.i2l, 1) := by decide +kernel
theorem dX11_end_8 : decode cX11_end 8 = .ok (.invokestatic 52, 3) := by decide +kernel
theorem dX11_end_11 : decode cX11_end 11 = .ok (.ifCond .ne 5, 3) := by decide +kernel
theorem dX11_end_14 : decode cX11_end 14 = .ok (.iconst (-1), 1) := by decide +kernel
theorem dX11_end_15 : decode cX11_end 15 = .ok (.ireturn, 1) := by decide +kernel
theorem dX11_end_16 : decode cX11_end 16 = .ok (.aload_n 0, 1) := by decide +kernel
theorem dX11_end_17 : decode cX11_end 17 = .ok (.iload_n 1, 1) := by decide +kernel
theorem dX11_end_18 : decode cX11_end 18 = .ok (.putfield 75, 3) := by decide +kernel
theorem dX11_end_21 : decode cX11_end 21 = .ok (.iload_n 1, 1) := by decide +kernel
theorem dX11_end_22 : decode cX11_end 22 = .ok (.ireturn, 1) := by decide +kernel
theorem dX11_town_0 : decode cX11_town 0 = .ok (.aload_n 0, 1) := by decide +kernel
theorem dX11_town_1 : decode cX11_town 1 = .ok (.invokevirtual 323, 3) := by decide +kernel
theorem dX11_town_4 : decode cX11_town 4 = .ok (.aload_n 0, 1) := by decide +kernel
theorem dX11_town_5 : decode cX11_town 5 = .ok (.invokevirtual 326, 3) := by decide +kernel
theorem dX11_town_8 : decode cX11_town 8 = .ok (.ifCond .ne 5, 3) := by decide +kernel
theorem dX11_town_11 : decode cX11_town 11 = .ok (.iconst (-1), 1) := by decide +kernel
theorem dX11_town_12 : decode cX11_town 12 = .ok (.ireturn, 1) := by decide +kernel
theorem dX11_town_13 : decode cX11_town 13 = .ok (.aload_n 0, 1) := by decide +kernel
theorem dX11_town_14 : decode cX11_town 14 = .ok (.aload_n 0, 1) := by decide +kernel
theorem dX11_town_15 : decode cX11_town 15 = .ok (.getfield 88, 3) := by decide +kernel
theorem dX11_town_18 : decode cX11_town 18 = .ok (.putfield 329, 3) := by decide +kernel
theorem dX11_town_21 : decode cX11_town 21 = .ok (.aload_n 0, 1) := by decide +kernel
theorem dX11_town_22 : decode cX11_town 22 = .ok (.aload_n 0, 1) := by decide +kernel
theorem dX11_town_23 : decode cX11_town 23 = .ok (.getfield 126, 3) := by decide +kernel
theorem dX11_town_26 : decode cX11_town 26 = .ok (.putfield 332, 3) := by decide +kernel
theorem dX11_town_29 : decode cX11_town 29 = .ok (.aload_n 0, 1) := by decide +kernel
theorem dX11_town_30 : decode cX11_town 30 = .ok (.aload_n 0, 1) := by decide +kernel
theorem dX11_town_31 : decode cX11_town 31 = .ok (.getfield 158, 3) := by decide +kernel
theorem dX11_town_34 : decode cX11_town 34 = .ok (.putfield 221, 3) := by decide +kernel
theorem dX11_town_37 : decode cX11_town 37 = .ok (.aload_n 0, 1) := by decide +kernel
theorem dX11_town_38 : decode cX11_town 38 = .ok (.aload_n 0, 1) := by decide +kernel
theorem dX11_town_39 : decode cX11_town 39 = .ok (.getfield 161, 3) := by decide +kernel
theorem dX11_town_42 : decode cX11_town 42 = .ok (.iconst (-1), 1) := by decide +kernel
theorem dX11_town_43 : decode cX11_town 43 = .ok (.if_icmp .eq 10, 3) := by decide +kernel
theorem dX11_town_46 : decode cX11_town 46 = .ok (.aload_n 0, 1) := by decide +kernel
theorem dX11_town_47 : decode cX11_town 47 = .ok (.getfield 161, 3) := by decide +kernel
theorem dX11_town_50 : decode cX11_town 50 = .ok (.goto 15, 3) := by decide +kernel
theorem dX11_town_53 : decode cX11_town 53 = .ok (.aload_n 0, 1) := by decide +kernel
theorem dX11_town_54 : decode cX11_town 54 = .ok (.getfield 332, 3) := by decide +kernel
theorem dX11_town_57 : decode cX11_town 57 = .ok (.ifCond .le 7, 3) := by decide +kernel
theorem dX11_town_60 : decode cX11_town 60 = .ok (.iconst 0, 1) := by decide +kernel
theorem dX11_town_61 : decode cX11_town 61 = .ok (.goto 4, 3) := by decide +kernel
theorem dX11_town_64 : decode cX11_town 64 = .ok (.iconst (-1), 1) := by decide +kernel
theorem dX11_town_65 : decode cX11_town 65 = .ok (.putfield 224, 3) := by decide +kernel
theorem dX11_town_68 : decode cX11_town 68 = .ok (.aload_n 0, 1) := by decide +kernel
theorem dX11_town_69 : decode cX11_town 69 = .ok (.aload_n 0, 1) := by decide +kernel
theorem dX11_town_70 : decode cX11_town 70 = .ok (.getfield 207, 3) := by decide +kernel
theorem dX11_town_73 : decode cX11_town 73 = .ok (.putfield 335, 3) := by decide +kernel
theorem dX11_town_76 : decode cX11_town 76 = .ok (.iconst 0, 1) := by decide +kernel
theorem dX11_town_77 : decode cX11_town 77 = .ok (.istore_n 1, 1) := by decide +kernel
theorem dX11_town_78 : decode cX11_town 78 = .ok (.iload_n 1, 1) := by decide +kernel
theorem dX11_town_79 : decode cX11_town 79 = .ok (.aload_n 0, 1) := by decide +kernel
theorem dX11_town_80 : decode cX11_town 80 = .ok (.getfield 329, 3) := by decide +kernel
theorem dX11_town_83 : decode cX11_town 83 = .ok (.if_icmp .ge 21, 3) := by decide +kernel
theorem dX11_town_86 : decode cX11_town 86 = .ok (.aload_n 0, 1) := by decide +kernel
theorem dX11_town_87 : decode cX11_town 87 = .ok (.getfield 227, 3) := by decide +kernel
theorem dX11_town_90 : decode cX11_town 90 = .ok (.iload_n 1, 1) := by decide +kernel
theorem dX11_town_91 : decode cX11_town 91 = .ok (.aload_n 0, 1) := by decide +kernel
theorem dX11_town_92 : decode cX11_town 92 = .ok (.getfield 91, 3) := by decide +kernel
theorem dX11_town_95 : decode cX11_town 95 = .ok (.iload_n 1, 1) := by decide +kernel
theorem dX11_town_96 : decode cX11_town 96 = .ok (.laload, 1) := by decide +kernel
theorem dX11_town_97 : decode cX11_town 97 = .ok (.lastore, 1) := by decide +kernel
theorem dX11_town_98 : decode cX11_town 98 = .ok (.iinc 1 1, 3) := by decide +kernel
theorem dX11_town_101 : decode cX11_town 101 = .ok (.goto (-23), 3) := by decide +kernel
theorem dX11_town_104 : decode cX11_town 104 = .ok (.iconst 0, 1) := by decide +kernel
theorem dX11_town_105 : decode cX11_town 105 = .ok (.istore_n 1, 1) := by decide +kernel
theorem dX11_town_106 : decode cX11_town 106 = .ok (.iload_n 1, 1) := by decide +kernel
theorem dX11_town_107 : decode cX11_town 107 = .ok (.aload_n 0, 1) := by decide +kernel
theorem dX11_town_108 : decode cX11_town 108 = .ok (.getfield 332, 3) := by decide +kernel
theorem dX11_town_111 : decode cX11_town 111 = .ok (.if_icmp .ge 21, 3) := by decide +kernel
theorem dX11_town_114 : decode cX11_town 114 = .ok (.aload_n 0, 1) := by decide +kernel
theorem dX11_town_115 : decode cX11_town 115 = .ok (.getfield 230, 3) := by decide +kernel
theorem dX11_town_118 : decode cX11_town 118 = .ok (.iload_n 1, 1) := by decide +kernel
theorem dX11_town_119 : decode cX11_town 119 = .ok (.aload_n 0, 1) := by decide +kernel
theorem dX11_town_120 : decode cX11_town 120 = .ok (.getfield 129, 3) := by decide +kernel
theorem dX11_town_123 : decode cX11_town 123 = .ok (.iload_n 1, 1) := by decide +kernel
theorem dX11_town_124 : decode cX11_town 124 = .ok (.laload, 1) := by decide +kernel
theorem dX11_town_125 : decode cX11_town 125 = .ok (.lastore, 1) := by decide +kernel
theorem dX11_town_126 : decode cX11_town 126 = .ok (.iinc 1 1, 3) := by decide +kernel
theorem dX11_town_129 : decode cX11_town 129 = .ok (.goto (-23), 3) := by decide +kernel
theorem dX11_town_132 : decode cX11_town 132 = .ok (.aload_n 0, 1) := by decide +kernel
theorem dX11_town_133 : decode cX11_town 133 = .ok (.getfield 233, 3) := by decide +kernel
theorem dX11_town_136 : decode cX11_town 136 = .ok (.aload_n 0, 1) := by decide +kernel
theorem dX11_town_137 : decode cX11_town 137 = .ok (.getfield 84, 3) := by decide +kernel
theorem dX11_town_140 : decode cX11_town 140 = .ok (.invokestatic 338, 3) := by decide +kernel
theorem dX11_town_143 : decode cX11_town 143 = .ok (.aload_n 0, 1) := by decide +kernel
theorem dX11_town_144 : decode cX11_town 144 = .ok (.getfield 235, 3) := by decide +kernel
theorem dX11_town_147 : decode cX11_town 147 = .ok (.aload_n 0, 1) := by decide +kernel
theorem dX11_town_148 : decode cX11_town 148 = .ok (.getfield 99, 3) := by decide +kernel
theorem dX11_town_151 : decode cX11_town 151 = .ok (.invokestatic 338, 3) := by decide +kernel
theorem dX11_town_154 : decode cX11_town 154 = .ok (.aload_n 0, 1) := by decide +kernel
theorem dX11_town_155 : decode cX11_town 155 = .ok (.getfield 238, 3) := by decide +kernel
theorem dX11_town_158 : decode cX11_town 158 = .ok (.aload_n 0, 1) := by decide +kernel
theorem dX11_town_159 : decode cX11_town 159 = .ok (.getfield 102, 3) := by decide +kernel
theorem dX11_town_162 : decode cX11_town 162 = .ok (.invokestatic 338, 3) := by decide +kernel
theorem dX11_town_165 : decode cX11_town 165 = .ok (.aload_n 0, 1) := by decide +kernel
theorem dX11_town_166 : decode cX11_town 166 = .ok (.getfield 241, 3) := by decide +kernel
theorem dX11_town_169 : decode cX11_town 169 = .ok (.aload_n 0, 1) := by decide +kernel
theorem dX11_town_170 : decode cX11_town 170 = .ok (.getfield 105, 3) := by decide +kernel
theorem dX11_town_173 : decode cX11_town 173 = .ok (.invokestatic 338, 3) := by decide +kernel
theorem dX11_town_176 : decode cX11_town 176 = .ok (.aload_n 0, 1) := by decide +kernel
theorem dX11_town_177 : decode cX11_town 177 = .ok (.getfield 244, 3) := by decide +kernel
theorem dX11_town_180 : decode cX11_town 180 = .ok (.aload_n 0, 1) := by decide +kernel
theorem dX11_town_181 : decode cX11_town 181 = .ok (.getfield 108, 3) := by decide +kernel
theorem dX11_town_184 : decode cX11_town 184 = .ok (.invokestatic 338, 3) := by decide +kernel
theorem dX11_town_187 : decode cX11_town 187 = .ok (.aload_n 0, 1) := by decide +kernel
theorem dX11_town_188 : decode cX11_town 188 = .ok (.getfield 246, 3) := by decide +kernel
theorem dX11_town_191 : decode cX11_town 191 = .ok (.aload_n 0, 1) := by decide +kernel
theorem dX11_town_192 : decode cX11_town 192 = .ok (.getfield 132, 3) := by decide +kernel
theorem dX11_town_195 : decode cX11_town 195 = .ok (.invokestatic 338, 3) := by decide +kernel
theorem dX11_town_198 : decode cX11_town 198 = .ok (.aload_n 0, 1) := by decide +kernel
theorem dX11_town_199 : decode cX11_town 199 = .ok (.getfield 249, 3) := by decide +kernel
theorem dX11_town_202 : decode cX11_town 202 = .ok (.aload_n 0, 1) := by decide +kernel
theorem dX11_town_203 : decode cX11_town 203 = .ok (.getfield 135, 3) := by decide +kernel
theorem dX11_town_206 : decode cX11_town 206 = .ok (.invokestatic 338, 3) := by decide +kernel
theorem dX11_town_209 : decode cX11_town 209 = .ok (.aload_n 0, 1) := by decide +kernel
theorem dX11_town_210 : decode cX11_town 210 = .ok (.getfield 252, 3) := by decide +kernel
theorem dX11_town_213 : decode cX11_town 213 = .ok (.aload_n 0, 1) := by decide +kernel
theorem dX11_town_214 : decode cX11_town 214 = .ok (.getfield 114, 3) := by decide +kernel
theorem dX11_town_217 : decode cX11_town 217 = .ok (.invokestatic 338, 3) := by decide +kernel
theorem dX11_town_220 : decode cX11_town 220 = .ok (.aload_n 0, 1) := by decide +kernel
theorem dX11_town_221 : decode cX11_town 221 = .ok (.getfield 254, 3) := by decide +kernel
theorem dX11_town_224 : decode cX11_town 224 = .ok (.aload_n 0, 1) := by decide +kernel
theorem dX11_town_225 : decode cX11_town 225 = .ok (.getfield 141, 3) := by decide +kernel
theorem dX11_town_228 : decode cX11_town 228 = .ok (.invokestatic 338, 3) := by decide +kernel
theorem dX11_town_231 : decode cX11_town 231 = .ok (.aload_n 0, 1) := by decide +kernel
theorem dX11_town_232 : decode cX11_town 232 = .ok (.getfield 257, 3) := by decide +kernel
theorem dX11_town_235 : decode cX11_town 235 = .ok (.aload_n 0, 1) := by decide +kernel
theorem dX11_town_236 : decode cX11_town 236 = .ok (.getfield 141, 3) := by decide +kernel
theorem dX11_town_239 : decode cX11_town 239 = .ok (.invokestatic 338, 3) := by decide +kernel
theorem dX11_town_242 : decode cX11_town 242 = .ok (.aload_n 0, 1) := by decide +kernel
theorem dX11_town_243 : decode cX11_town 243 = .ok (.getfield 259, 3) := by decide +kernel
theorem dX11_town_246 : decode cX11_town 246 = .ok (.aload_n 0, 1) := by decide +kernel
theorem dX11_town_247 : decode cX11_town 247 = .ok (.getfield 144, 3) := by decide +kernel
theorem dX11_town_250 : decode cX11_town 250 = .ok (.invokestatic 338, 3) := by decide +kernel
theorem dX11_town_253 : decode cX11_town 253 = .ok (.aload_n 0, 1) := by decide +kernel
theorem dX11_town_254 : decode cX11_town 254 = .ok (.getfield 261, 3) := by decide +kernel
theorem dX11_town_257 : decode cX11_town 257 = .ok (.aload_n 0, 1) := by decide +kernel
theorem dX11_town_258 : decode cX11_town 258 = .ok (.getfield 117, 3) := by decide +kernel
theorem dX11_town_261 : decode cX11_town 261 = .ok (.invokestatic 338, 3) := by decide +kernel
theorem dX11_town_264 : decode cX11_town 264 = .ok (.aload_n 0, 1) := by decide +kernel
theorem dX11_town_265 : decode cX11_town 265 = .ok (.getfield 264, 3) := by decide +kernel
theorem dX11_town_268 : decode cX11_town 268 = .ok (.aload_n 0, 1) := by decide +kernel
theorem dX11_town_269 : decode cX11_town 269 = .ok (.getfield 120, 3) := by decide +kernel
theorem dX11_town_272 : decode cX11_town 272 = .ok (.invokestatic 338, 3) := by decide +kernel
theorem dX11_town_275 : decode cX11_town 275 = .ok (.aload_n 0, 1) := by decide +kernel
theorem dX11_town_276 : decode cX11_town 276 = .ok (.getfield 267, 3) := by decide +kernel
theorem dX11_town_279 : decode cX11_town 279 = .ok (.aload_n 0, 1) := by decide +kernel
theorem dX11_town_280 : decode cX11_town 280 = .ok (.getfield 123, 3) := by decide +kernel
theorem dX11_town_283 : decode cX11_town 283 = .ok (.invokestatic 338, 3) := by decide +kernel
theorem dX11_town_286 : decode cX11_town 286 = .ok (.iconst 0, 1) := by decide +kernel
theorem dX11_town_287 : decode cX11_town 287 = .ok (.istore_n 1, 1) := by decide +kernel
theorem dX11_town_288 : decode cX11_town 288 = .ok (.iload_n 1, 1) := by decide +kernel
theorem dX11_town_289 : decode cX11_town 289 = .ok (.iconst 4, 1) := by decide +kernel
theorem dX11_town_290 : decode cX11_town 290 = .ok (.if_icmp .ge 33, 3) := by decide +kernel
theorem dX11_town_293 : decode cX11_town 293 = .ok (.aload_n 0, 1) := by decide +kernel
theorem dX11_town_294 : decode cX11_town 294 = .ok (.getfield 283, 3) := by decide +kernel
theorem dX11_town_297 : decode cX11_town 297 = .ok (.bipush 28, 2) := by decide +kernel
theorem dX11_town_299 : decode cX11_town 299 = .ok (.iload_n 1, 1) := by decide +kernel
theorem dX11_town_300 : decode cX11_town 300 = .ok (.iadd, 1) := by decide +kernel
theorem dX11_town_301 : decode cX11_town 301 = .ok (.iconst 1, 1) := by decide +kernel
theorem dX11_town_302 : decode cX11_town 302 = .ok (.iastore, 1) := by decide +kernel
theorem dX11_town_303 : decode cX11_town 303 = .ok (.aload_n 0, 1) := by decide +kernel
theorem dX11_town_304 : decode cX11_town 304 = .ok (.getfield 310, 3) := by decide +kernel
theorem dX11_town_307 : decode cX11_town 307 = .ok (.iload_n 1, 1) := by decide +kernel
theorem dX11_town_308 : decode cX11_town 308 = .ok (.iconst 0, 1) := by decide +kernel
theorem dX11_town_309 : decode cX11_town 309 = .ok (.iastore, 1) := by decide +kernel
theorem dX11_town_310 : decode cX11_town 310 = .ok (.aload_n 0, 1) := by decide +kernel
theorem dX11_town_311 : decode cX11_town 311 = .ok (.getfield 313, 3) := by decide +kernel
theorem dX11_town_314 : decode cX11_town 314 = .ok (.iload_n 1, 1) := by decide +kernel
theorem dX11_town_315 : decode cX11_town 315 = .ok (.iconst 0, 1) := by decide +kernel
theorem dX11_town_316 : decode cX11_town 316 = .ok (.iastore, 1) := by decide +kernel
theorem dX11_town_317 : decode cX11_town 317 = .ok (.iinc 1 1, 3) := by decide +kernel
theorem dX11_town_320 : decode cX11_town 320 = .ok (.goto (-32), 3) := by decide +kernel
theorem dX11_town_323 : decode cX11_town 323 = .ok (.aload_n 0, 1) := by decide +kernel
theorem dX11_town_324 : decode cX11_town 324 = .ok (.aload_n 0, 1) := by decide +kernel
theorem dX11_town_325 : decode cX11_town 325 = .ok (.getfield 283, 3) := by decide +kernel
theorem dX11_town_328 : decode cX11_town 328 = .ok (.invokevirtual 342, 3) := by decide +kernel
theorem dX11_town_331 : decode cX11_town 331 = .ok (.aload_n 0, 1) := by decide +kernel
theorem dX11_town_332 : decode cX11_town 332 = .ok (.lconst 0, 1) := by decide +kernel
theorem dX11_town_333 : decode cX11_town 333 = .ok (.putfield 346, 3) := by decide +kernel
theorem dX11_town_336 : decode cX11_town 336 = .ok (.aload_n 0, 1) := by decide +kernel
theorem dX11_town_337 : decode cX11_town 337 = .ok (.invokevirtual 350, 3) := by decide +kernel
theorem dX11_town_340 : decode cX11_town 340 = .ok (.iconst 0, 1) := by decide +kernel
theorem dX11_town_341 : decode cX11_town 341 = .ok (.istore_n 1, 1) := by decide +kernel
theorem dX11_town_342 : decode cX11_town 342 = .ok (.iload_n 1, 1) := by decide +kernel
theorem dX11_town_343 : decode cX11_town 343 = .ok (.iconst 3, 1) := by decide +kernel
theorem dX11_town_344 : decode cX11_town 344 = .ok (.if_icmp .ge 16, 3) := by decide +kernel
theorem dX11_town_347 : decode cX11_town 347 = .ok (.aload_n 0, 1) := by decide +kernel
theorem dX11_town_348 : decode cX11_town 348 = .ok (.getfield 301, 3) := by decide +kernel
theorem dX11_town_351 : decode cX11_town 351 = .ok (.iload_n 1, 1) := by decide +kernel
theorem dX11_town_352 : decode cX11_town 352 = .ok (.iconst 0, 1) := by decide +kernel
theorem dX11_town_353 : decode cX11_town 353 = .ok (.bastore, 1) := by decide +kernel
theorem dX11_town_354 : decode cX11_town 354 = .ok (.iinc 1 1, 3) := by decide +kernel
theorem dX11_town_357 : decode cX11_town 357 = .ok (.goto (-15), 3) := by decide +kernel
theorem dX11_town_360 : decode cX11_town 360 = .ok (.aload_n 0, 1) := by decide +kernel
theorem dX11_town_361 : decode cX11_town 361 = .ok (.iconst (-1), 1) := by decide +kernel
theorem dX11_town_362 : decode cX11_town 362 = .ok (.putfield 304, 3) := by decide +kernel
theorem dX11_town_365 : decode cX11_town 365 = .ok (.aload_n 0, 1) := by decide +kernel
theorem dX11_town_366 : decode cX11_town 366 = .ok (.getfield 335, 3) := by decide +kernel
theorem dX11_town_369 : decode cX11_town 369 = .ok (.ireturn, 1) := by decide +kernel
theorem dX11_fault_0 : decode cX11_fault 0 = .ok (.iload_n 1, 1) := by decide +kernel
theorem dX11_fault_1 : decode cX11_fault 1 = .ok (.ifCond .ne 10, 3) := by decide +kernel
theorem dX11_fault_4 : decode cX11_fault 4 = .ok (.aload_n 0, 1) := by decide +kernel
theorem dX11_fault_5 : decode cX11_fault 5 = .ok (.getfield 3, 3) := by decide +kernel
theorem dX11_fault_8 : decode cX11_fault 8 = .ok (.goto 16, 3) := by decide +kernel
theorem dX11_fault_11 : decode cX11_fault 11 = .ok (.iload_n 1, 1) := by decide +kernel
theorem dX11_fault_12 : decode cX11_fault 12 = .ok (.iconst 1, 1) := by decide +kernel
theorem dX11_fault_13 : decode cX11_fault 13 = .ok (.if_icmp .ne 10, 3) := by decide +kernel
theorem dX11_fault_16 : decode cX11_fault 16 = .ok (.aload_n 0, 1) := by decide +kernel
theorem dX11_fault_17 : decode cX11_fault 17 = .ok (.getfield 10, 3) := by decide +kernel
theorem dX11_fault_20 : decode cX11_fault 20 = .ok (.goto 4, 3) := by decide +kernel
theorem dX11_fault_23 : decode cX11_fault 23 = .ok (.iconst (-1), 1) := by decide +kernel
theorem dX11_fault_24 : decode cX11_fault 24 = .ok (.ireturn, 1) := by decide +kernel
theorem dX11_told_0 : decode cX11_told 0 = .ok (.iload_n 1, 1) := by decide +kernel
theorem dX11_told_1 : decode cX11_told 1 = .ok (.bipush 10, 2) := by decide +kernel
theorem dX11_told_3 : decode cX11_told 3 = .ok (.irem, 1) := by decide +kernel
theorem dX11_told_4 : decode cX11_told 4 = .ok (.istore_n 2, 1) := by decide +kernel
theorem dX11_told_5 : decode cX11_told 5 = .ok (.iload_n 1, 1) := by decide +kernel
theorem dX11_told_6 : decode cX11_told 6 = .ok (.i2l, 1) := by decide +kernel
theorem dX11_told_7 : decode cX11_told 7 = .ok (.ldc2_w 353, 3) := by decide +kernel
theorem dX11_told_10 : decode cX11_told 10 = .ok (.ldc2_w 355, 3) := by decide +kernel
theorem dX11_told_13 : decode cX11_told 13 = .ok (.invokestatic 52, 3) := by decide +kernel
theorem dX11_told_16 : decode cX11_told 16 = .ok (.ifCond .eq 13, 3) := by decide +kernel
theorem dX11_told_19 : decode cX11_told 19 = .ok (.aload_n 0, 1) := by decide +kernel
theorem dX11_told_20 : decode cX11_told 20 = .ok (.getfield 233, 3) := by decide +kernel
theorem dX11_told_23 : decode cX11_told 23 = .ok (.iload_n 1, 1) := by decide +kernel
theorem dX11_told_24 : decode cX11_told 24 = .ok (.bipush 10, 2) := by decide +kernel
theorem dX11_told_26 : decode cX11_told 26 = .ok (.isub, 1) := by decide +kernel
theorem dX11_told_27 : decode cX11_told 27 = .ok (.iaload, 1) := by decide +kernel
theorem dX11_told_28 : decode cX11_told 28 = .ok (.ireturn, 1) := by decide +kernel
theorem dX11_told_29 : decode cX11_told 29 = .ok (.iload_n 1, 1) := by decide +kernel
theorem dX11_told_30 : decode cX11_told 30 = .ok (.i2l, 1) := by decide +kernel
theorem dX11_told_31 : decode cX11_told 31 = .ok (.ldc2_w 357, 3) := by decide +kernel
theorem dX11_told_34 : decode cX11_told 34 = .ok (.ldc2_w 359, 3) := by decide +kernel
theorem dX11_told_37 : decode cX11_told 37 = .ok (.invokestatic 52, 3) := by decide +kernel
theorem dX11_told_40 : decode cX11_told 40 = .ok (.ifCond .eq 67, 3) := by decide +kernel
theorem dX11_told_43 : decode cX11_told 43 = .ok (.iload_n 2, 1) := by decide +kernel
theorem dX11_told_44 : decode cX11_told 44 = .ok (.aload_n 0, 1) := by decide +kernel
theorem dX11_told_45 : decode cX11_told 45 = .ok (.getfield 329, 3) := by decide +kernel
theorem dX11_told_48 : decode cX11_told 48 = .ok (.if_icmp .lt 7, 3) := by decide +kernel
theorem dX11_told_51 : decode cX11_told 51 = .ok (.iconst (-1), 1) := by decide +kernel
theorem dX11_told_52 : decode cX11_told 52 = .ok (.goto 54, 3) := by decide +kernel
theorem dX11_told_55 : decode cX11_told 55 = .ok (.iload_n 1, 1) := by decide +kernel
theorem dX11_told_56 : decode cX11_told 56 = .ok (.bipush 30, 2) := by decide +kernel
theorem dX11_told_58 : decode cX11_told 58 = .ok (.if_icmp .ge 12, 3) := by decide +kernel
theorem dX11_told_61 : decode cX11_told 61 = .ok (.aload_n 0, 1) := by decide +kernel
theorem dX11_told_62 : decode cX11_told 62 = .ok (.getfield 235, 3) := by decide +kernel
theorem dX11_told_65 : decode cX11_told 65 = .ok (.iload_n 2, 1) := by decide +kernel
theorem dX11_told_66 : decode cX11_told 66 = .ok (.iaload, 1) := by decide +kernel
theorem dX11_told_67 : decode cX11_told 67 = .ok (.goto 39, 3) := by decide +kernel
theorem dX11_told_70 : decode cX11_told 70 = .ok (.iload_n 1, 1) := by decide +kernel
theorem dX11_told_71 : decode cX11_told 71 = .ok (.bipush 40, 2) := by decide +kernel
theorem dX11_told_73 : decode cX11_told 73 = .ok (.if_icmp .ge 12, 3) := by decide +kernel
theorem dX11_told_76 : decode cX11_told 76 = .ok (.aload_n 0, 1) := by decide +kernel
theorem dX11_told_77 : decode cX11_told 77 = .ok (.getfield 238, 3) := by decide +kernel
theorem dX11_told_80 : decode cX11_told 80 = .ok (.iload_n 2, 1) := by decide +kernel
theorem dX11_told_81 : decode cX11_told 81 = .ok (.iaload, 1) := by decide +kernel
theorem dX11_told_82 : decode cX11_told 82 = .ok (.goto 24, 3) := by decide +kernel
theorem dX11_told_85 : decode cX11_told 85 = .ok (.iload_n 1, 1) := by decide +kernel
theorem dX11_told_86 : decode cX11_told 86 = .ok (.bipush 50, 2) := by decide +kernel
theorem dX11_told_88 : decode cX11_told 88 = .ok (.if_icmp .ge 12, 3) := by decide +kernel
theorem dX11_told_91 : decode cX11_told 91 = .ok (.aload_n 0, 1) := by decide +kernel
theorem dX11_told_92 : decode cX11_told 92 = .ok (.getfield 241, 3) := by decide +kernel
theorem dX11_told_95 : decode cX11_told 95 = .ok (.iload_n 2, 1) := by decide +kernel
theorem dX11_told_96 : decode cX11_told 96 = .ok (.iaload, 1) := by decide +kernel
theorem dX11_told_97 : decode cX11_told 97 = .ok (.goto 9, 3) := by decide +kernel
theorem dX11_told_100 : decode cX11_told 100 = .ok (.aload_n 0, 1) := by decide +kernel
theorem dX11_told_101 : decode cX11_told 101 = .ok (.getfield 244, 3) := by decide +kernel
theorem dX11_told_104 : decode cX11_told 104 = .ok (.iload_n 2, 1) := by decide +kernel
theorem dX11_told_105 : decode cX11_told 105 = .ok (.iaload, 1) := by decide +kernel
theorem dX11_told_106 : decode cX11_told 106 = .ok (.ireturn, 1) := by decide +kernel
theorem dX11_told_107 : decode cX11_told 107 = .ok (.iload_n 1, 1) := by decide +kernel
theorem dX11_told_108 : decode cX11_told 108 = .ok (.i2l, 1) := by decide +kernel
theorem dX11_told_109 : decode cX11_told 109 = .ok (.ldc2_w 361, 3) := by decide +kernel
theorem dX11_told_112 : decode cX11_told 112 = .ok (.ldc2_w 363, 3) := by decide +kernel
theorem dX11_told_115 : decode cX11_told 115 = .ok (.invokestatic 52, 3) := by decide +kernel
theorem dX11_told_118 : decode cX11_told 118 = .ok (.ifCond .eq 37, 3) := by decide +kernel
theorem dX11_told_121 : decode cX11_told 121 = .ok (.iload_n 2, 1) := by decide +kernel
theorem dX11_told_122 : decode cX11_told 122 = .ok (.aload_n 0, 1) := by decide +kernel
theorem dX11_told_123 : decode cX11_told 123 = .ok (.getfield 332, 3) := by decide +kernel
theorem dX11_told_126 : decode cX11_told 126 = .ok (.if_icmp .lt 7, 3) := by decide +kernel
theorem dX11_told_129 : decode cX11_told 129 = .ok (.iconst (-1), 1) := by decide +kernel
theorem dX11_told_130 : decode cX11_told 130 = .ok (.goto 24, 3) := by decide +kernel
theorem dX11_told_133 : decode cX11_told 133 = .ok (.iload_n 1, 1) := by decide +kernel
theorem dX11_told_134 : decode cX11_told 134 = .ok (.bipush 70, 2) := by decide +kernel
theorem dX11_told_136 : decode cX11_told 136 = .ok (.if_icmp .ge 12, 3) := by decide +kernel
theorem dX11_told_139 : decode cX11_told 139 = .ok (.aload_n 0, 1) := by decide +kernel
theorem dX11_told_140 : decode cX11_told 140 = .ok (.getfield 246, 3) := by decide +kernel
theorem dX11_told_143 : decode cX11_told 143 = .ok (.iload_n 2, 1) := by decide +kernel
theorem dX11_told_144 : decode cX11_told 144 = .ok (.iaload, 1) := by decide +kernel
theorem dX11_told_145 : decode cX11_told 145 = .ok (.goto 9, 3) := by decide +kernel
theorem dX11_told_148 : decode cX11_told 148 = .ok (.aload_n 0, 1) := by decide +kernel
theorem dX11_told_149 : decode cX11_told 149 = .ok (.getfield 249, 3) := by decide +kernel
theorem dX11_told_152 : decode cX11_told 152 = .ok (.iload_n 2, 1) := by decide +kernel
theorem dX11_told_153 : decode cX11_told 153 = .ok (.iaload, 1) := by decide +kernel
theorem dX11_told_154 : decode cX11_told 154 = .ok (.ireturn, 1) := by decide +kernel
theorem dX11_told_155 : decode cX11_told 155 = .ok (.iload_n 1, 1) := by decide +kernel
theorem dX11_told_156 : decode cX11_told 156 = .ok (.tableswitch 52 0 3 #[32, 37, 42, 47], 32) := by decide +kernel
theorem dX11_told_188 : decode cX11_told 188 = .ok (.aload_n 0, 1) := by decide +kernel
theorem dX11_told_189 : decode cX11_told 189 = .ok (.getfield 329, 3) := by decide +kernel
theorem dX11_told_192 : decode cX11_told 192 = .ok (.ireturn, 1) := by decide +kernel
theorem dX11_told_193 : decode cX11_told 193 = .ok (.aload_n 0, 1) := by decide +kernel
theorem dX11_told_194 : decode cX11_told 194 = .ok (.getfield 332, 3) := by decide +kernel
theorem dX11_told_197 : decode cX11_told 197 = .ok (.ireturn, 1) := by decide +kernel
theorem dX11_told_198 : decode cX11_told 198 = .ok (.aload_n 0, 1) := by decide +kernel
theorem dX11_told_199 : decode cX11_told 199 = .ok (.getfield 221, 3) := by decide +kernel
theorem dX11_told_202 : decode cX11_told 202 = .ok (.ireturn, 1) := by decide +kernel
theorem dX11_told_203 : decode cX11_told 203 = .ok (.aload_n 0, 1) := by decide +kernel
theorem dX11_told_204 : decode cX11_told 204 = .ok (.getfield 224, 3) := by decide +kernel
theorem dX11_told_207 : decode cX11_told 207 = .ok (.ireturn, 1) := by decide +kernel
theorem dX11_told_208 : decode cX11_told 208 = .ok (.iconst (-1), 1) := by decide +kernel
theorem dX11_told_209 : decode cX11_told 209 = .ok (.ireturn, 1) := by decide +kernel
theorem dX11_isSort_0 : decode cX11_isSort 0 = .ok (.iload_n 1, 1) := by decide +kernel
theorem dX11_isSort_1 : decode cX11_isSort 1 = .ok (.i2l, 1) := by decide +kernel
theorem dX11_isSort_2 : decode cX11_isSort 2 = .ok (.lconst 0, 1) := by decide +kernel
theorem dX11_isSort_3 : decode cX11_isSort 3 = .ok (.aload_n 0, 1) := by decide +kernel
theorem dX11_isSort_4 : decode cX11_isSort 4 = .ok (.getfield 329, 3) := by decide +kernel
theorem dX11_isSort_7 : decode cX11_isSort 7 = .ok (.i2l, 1) := by decide +kernel
theorem dX11_isSort_8 : decode cX11_isSort 8 = .ok (.lconst 1, 1) := by decide +kernel
theorem dX11_isSort_9 : decode cX11_isSort 9 = .ok (.lsub, 1) := by decide +kernel
theorem dX11_isSort_10 : decode cX11_isSort 10 = .ok (.invokestatic 52, 3) := by decide +kernel
theorem dX11_isSort_13 : decode cX11_isSort 13 = .ok (.ireturn, 1) := by decide +kernel
theorem dX11_isThing_0 : decode cX11_isThing 0 = .ok (.iload_n 1, 1) := by decide +kernel
theorem dX11_isThing_1 : decode cX11_isThing 1 = .ok (.i2l, 1) := by decide +kernel
theorem dX11_isThing_2 : decode cX11_isThing 2 = .ok (.lconst 0, 1) := by decide +kernel
theorem dX11_isThing_3 : decode cX11_isThing 3 = .ok (.aload_n 0, 1) := by decide +kernel
theorem dX11_isThing_4 : decode cX11_isThing 4 = .ok (.getfield 332, 3) := by decide +kernel
theorem dX11_isThing_7 : decode cX11_isThing 7 = .ok (.i2l, 1) := by decide +kernel
theorem dX11_isThing_8 : decode cX11_isThing 8 = .ok (.lconst 1, 1) := by decide +kernel
theorem dX11_isThing_9 : decode cX11_isThing 9 = .ok (.lsub, 1) := by decide +kernel
theorem dX11_isThing_10 : decode cX11_isThing 10 = .ok (.invokestatic 52, 3) := by decide +kernel
theorem dX11_isThing_13 : decode cX11_isThing 13 = .ok (.ireturn, 1) := by decide +kernel
theorem dX11_isDay_0 : decode cX11_isDay 0 = .ok (.iload_n 0, 1) := by decide +kernel
theorem dX11_isDay_1 : decode cX11_isDay 1 = .ok (.i2l, 1) := by decide +kernel
theorem dX11_isDay_2 : decode cX11_isDay 2 = .ok (.lconst 0, 1) := by decide +kernel
theorem dX11_isDay_3 : decode cX11_isDay 3 = .ok (.ldc2_w 365, 3) := by decide +kernel
theorem dX11_isDay_6 : decode cX11_isDay 6 = .ok (.invokestatic 52, 3) := by decide +kernel
theorem dX11_isDay_9 : decode cX11_isDay 9 = .ok (.ireturn, 1) := by decide +kernel
theorem dX11_earns_0 : decode cX11_earns 0 = .ok (.aload_n 0, 1) := by decide +kernel
theorem dX11_earns_1 : decode cX11_earns 1 = .ok (.iload_n 1, 1) := by decide +kernel
theorem dX11_earns_2 : decode cX11_earns 2 = .ok (.invokevirtual 367, 3) := by decide +kernel
theorem dX11_earns_5 : decode cX11_earns 5 = .ok (.ifCond .eq 24, 3) := by decide +kernel
theorem dX11_earns_8 : decode cX11_earns 8 = .ok (.iload_n 2, 1) := by decide +kernel
theorem dX11_earns_9 : decode cX11_earns 9 = .ok (.invokestatic 370, 3) := by decide +kernel
theorem dX11_earns_12 : decode cX11_earns 12 = .ok (.ifCond .eq 17, 3) := by decide +kernel
theorem dX11_earns_15 : decode cX11_earns 15 = .ok (.aload_n 0, 1) := by decide +kernel
theorem dX11_earns_16 : decode cX11_earns 16 = .ok (.getfield 252, 3) := by decide +kernel
theorem dX11_earns_19 : decode cX11_earns 19 = .ok (.bipush 7, 2) := by decide +kernel
theorem dX11_earns_21 : decode cX11_earns 21 = .ok (.iload_n 1, 1) := by decide +kernel
theorem dX11_earns_22 : decode cX11_earns 22 = .ok (.imul, 1) := by decide +kernel
theorem dX11_earns_23 : decode cX11_earns 23 = .ok (.iload_n 2, 1) := by decide +kernel
theorem dX11_earns_24 : decode cX11_earns 24 = .ok (.iadd, 1) := by decide +kernel
theorem dX11_earns_25 : decode cX11_earns 25 = .ok (.iaload, 1) := by decide +kernel
theorem dX11_earns_26 : decode cX11_earns 26 = .ok (.goto 5, 3) := by decide +kernel
theorem dX11_earns_29 : decode cX11_earns 29 = .ok (.bipush (-2), 2) := by decide +kernel
theorem dX11_earns_31 : decode cX11_earns 31 = .ok (.ireturn, 1) := by decide +kernel
theorem dX11_price_0 : decode cX11_price 0 = .ok (.aload_n 0, 1) := by decide +kernel
theorem dX11_price_1 : decode cX11_price 1 = .ok (.iload_n 1, 1) := by decide +kernel
theorem dX11_price_2 : decode cX11_price 2 = .ok (.invokevirtual 373, 3) := by decide +kernel
theorem dX11_price_5 : decode cX11_price 5 = .ok (.ifCond .eq 24, 3) := by decide +kernel
theorem dX11_price_8 : decode cX11_price 8 = .ok (.iload_n 2, 1) := by decide +kernel
theorem dX11_price_9 : decode cX11_price 9 = .ok (.invokestatic 370, 3) := by decide +kernel
theorem dX11_price_12 : decode cX11_price 12 = .ok (.ifCond .eq 17, 3) := by decide +kernel
theorem dX11_price_15 : decode cX11_price 15 = .ok (.aload_n 0, 1) := by decide +kernel
theorem dX11_price_16 : decode cX11_price 16 = .ok (.getfield 257, 3) := by decide +kernel
theorem dX11_price_19 : decode cX11_price 19 = .ok (.bipush 7, 2) := by decide +kernel
theorem dX11_price_21 : decode cX11_price 21 = .ok (.iload_n 1, 1) := by decide +kernel
theorem dX11_price_22 : decode cX11_price 22 = .ok (.imul, 1) := by decide +kernel
theorem dX11_price_23 : decode cX11_price 23 = .ok (.iload_n 2, 1) := by decide +kernel
theorem dX11_price_24 : decode cX11_price 24 = .ok (.iadd, 1) := by decide +kernel
theorem dX11_price_25 : decode cX11_price 25 = .ok (.iaload, 1) := by decide +kernel
theorem dX11_price_26 : decode cX11_price 26 = .ok (.goto 5, 3) := by decide +kernel
theorem dX11_price_29 : decode cX11_price 29 = .ok (.bipush (-2), 2) := by decide +kernel
theorem dX11_price_31 : decode cX11_price 31 = .ok (.ireturn, 1) := by decide +kernel
theorem dX11_made_0 : decode cX11_made 0 = .ok (.aload_n 0, 1) := by decide +kernel
theorem dX11_made_1 : decode cX11_made 1 = .ok (.iload_n 1, 1) := by decide +kernel
theorem dX11_made_2 : decode cX11_made 2 = .ok (.invokevirtual 373, 3) := by decide +kernel
theorem dX11_made_5 : decode cX11_made 5 = .ok (.ifCond .eq 24, 3) := by decide +kernel
theorem dX11_made_8 : decode cX11_made 8 = .ok (.iload_n 2, 1) := by decide +kernel
theorem dX11_made_9 : decode cX11_made 9 = .ok (.invokestatic 370, 3) := by decide +kernel
theorem dX11_made_12 : decode cX11_made 12 = .ok (.ifCond .eq 17, 3) := by decide +kernel
theorem dX11_made_15 : decode cX11_made 15 = .ok (.aload_n 0, 1) := by decide +kernel
theorem dX11_made_16 : decode cX11_made 16 = .ok (.getfield 259, 3) := by decide +kernel
theorem dX11_made_19 : decode cX11_made 19 = .ok (.bipush 7, 2) := by decide +kernel
theorem dX11_made_21 : decode cX11_made 21 = .ok (.iload_n 1, 1) := by decide +kernel
theorem dX11_made_22 : decode cX11_made 22 = .ok (.imul, 1) := by decide +kernel
theorem dX11_made_23 : decode cX11_made 23 = .ok (.iload_n 2, 1) := by decide +kernel
theorem dX11_made_24 : decode cX11_made 24 = .ok (.iadd, 1) := by decide +kernel
theorem dX11_made_25 : decode cX11_made 25 = .ok (.iaload, 1) := by decide +kernel
theorem dX11_made_26 : decode cX11_made 26 = .ok (.goto 5, 3) := by decide +kernel
theorem dX11_made_29 : decode cX11_made 29 = .ok (.bipush (-2), 2) := by decide +kernel
theorem dX11_made_31 : decode cX11_made 31 = .ok (.ireturn, 1) := by decide +kernel
theorem dX11_wants_0 : decode cX11_wants 0 = .ok (.aload_n 0, 1) := by decide +kernel
theorem dX11_wants_1 : decode cX11_wants 1 = .ok (.iload_n 1, 1) := by decide +kernel
theorem dX11_wants_2 : decode cX11_wants 2 = .ok (.invokevirtual 367, 3) := by decide +kernel
theorem dX11_wants_5 : decode cX11_wants 5 = .ok (.ifCond .eq 22, 3) := by decide +kernel
theorem dX11_wants_8 : decode cX11_wants 8 = .ok (.iload_n 2, 1) := by decide +kernel
theorem dX11_wants_9 : decode cX11_wants 9 = .ok (.invokestatic 370, 3) := by decide +kernel
theorem dX11_wants_12 : decode cX11_wants 12 = .ok (.ifCond .eq 15, 3) := by decide +kernel
theorem dX11_wants_15 : decode cX11_wants 15 = .ok (.iload_n 3, 1) := by decide +kernel
theorem dX11_wants_16 : decode cX11_wants 16 = .ok (.i2l, 1) := by decide +kernel
theorem dX11_wants_17 : decode cX11_wants 17 = .ok (.lconst 0, 1) := by decide +kernel
theorem dX11_wants_18 : decode cX11_wants 18 = .ok (.ldc2_w 376, 3) := by decide +kernel
theorem dX11_wants_21 : decode cX11_wants 21 = .ok (.invokestatic 52, 3) := by decide +kernel
theorem dX11_wants_24 : decode cX11_wants 24 = .ok (.ifCond .ne 6, 3) := by decide +kernel
theorem dX11_wants_27 : decode cX11_wants 27 = .ok (.bipush (-2), 2) := by decide +kernel
theorem dX11_wants_29 : decode cX11_wants 29 = .ok (.ireturn, 1) := by decide +kernel
theorem dX11_wants_30 : decode cX11_wants 30 = .ok (.bipush 7, 2) := by decide +kernel
theorem dX11_wants_32 : decode cX11_wants 32 = .ok (.iload_n 1, 1) := by decide +kernel
theorem dX11_wants_33 : decode cX11_wants 33 = .ok (.imul, 1) := by decide +kernel
theorem dX11_wants_34 : decode cX11_wants 34 = .ok (.iload_n 2, 1) := by decide +kernel
theorem dX11_wants_35 : decode cX11_wants 35 = .ok (.iadd, 1) := by decide +kernel
theorem dX11_wants_36 : decode cX11_wants 36 = .ok (.istore 4, 2) := by decide +kernel
theorem dX11_wants_38 : decode cX11_wants 38 = .ok (.iload_n 3, 1) := by decide +kernel
theorem dX11_wants_39 : decode cX11_wants 39 = .ok (.ifCond .ne 13, 3) := by decide +kernel
theorem dX11_wants_42 : decode cX11_wants 42 = .ok (.aload_n 0, 1) := by decide +kernel
theorem dX11_wants_43 : decode cX11_wants 43 = .ok (.getfield 261, 3) := by decide +kernel
theorem dX11_wants_46 : decode cX11_wants 46 = .ok (.iload 4, 2) := by decide +kernel
theorem dX11_wants_48 : decode cX11_wants 48 = .ok (.iaload, 1) := by decide +kernel
theorem dX11_wants_49 : decode cX11_wants 49 = .ok (.goto 25, 3) := by decide +kernel
theorem dX11_wants_52 : decode cX11_wants 52 = .ok (.iload_n 3, 1) := by decide +kernel
theorem dX11_wants_53 : decode cX11_wants 53 = .ok (.iconst 1, 1) := by decide +kernel
theorem dX11_wants_54 : decode cX11_wants 54 = .ok (.if_icmp .ne 13, 3) := by decide +kernel
theorem dX11_wants_57 : decode cX11_wants 57 = .ok (.aload_n 0, 1) := by decide +kernel
theorem dX11_wants_58 : decode cX11_wants 58 = .ok (.getfield 264, 3) := by decide +kernel
theorem dX11_wants_61 : decode cX11_wants 61 = .ok (.iload 4, 2) := by decide +kernel
theorem dX11_wants_63 : decode cX11_wants 63 = .ok (.iaload, 1) := by decide +kernel
theorem dX11_wants_64 : decode cX11_wants 64 = .ok (.goto 10, 3) := by decide +kernel
theorem dX11_wants_67 : decode cX11_wants 67 = .ok (.aload_n 0, 1) := by decide +kernel
theorem dX11_wants_68 : decode cX11_wants 68 = .ok (.getfield 267, 3) := by decide +kernel
theorem dX11_wants_71 : decode cX11_wants 71 = .ok (.iload 4, 2) := by decide +kernel
theorem dX11_wants_73 : decode cX11_wants 73 = .ok (.iaload, 1) := by decide +kernel
theorem dX11_wants_74 : decode cX11_wants 74 = .ok (.ireturn, 1) := by decide +kernel
theorem dX11_stampsOf_0 : decode cX11_stampsOf 0 = .ok (.iload_n 0, 1) := by decide +kernel
theorem dX11_stampsOf_1 : decode cX11_stampsOf 1 = .ok (.iload_n 1, 1) := by decide +kernel
theorem dX11_stampsOf_2 : decode cX11_stampsOf 2 = .ok (.imul, 1) := by decide +kernel
theorem dX11_stampsOf_3 : decode cX11_stampsOf 3 = .ok (.sipush 999, 3) := by decide +kernel
theorem dX11_stampsOf_6 : decode cX11_stampsOf 6 = .ok (.iadd, 1) := by decide +kernel
theorem dX11_stampsOf_7 : decode cX11_stampsOf 7 = .ok (.sipush 1000, 3) := by decide +kernel
theorem dX11_stampsOf_10 : decode cX11_stampsOf 10 = .ok (.idiv, 1) := by decide +kernel
theorem dX11_stampsOf_11 : decode cX11_stampsOf 11 = .ok (.ireturn, 1) := by decide +kernel
theorem dX11_costOf_0 : decode cX11_costOf 0 = .ok (.aload_n 0, 1) := by decide +kernel
theorem dX11_costOf_1 : decode cX11_costOf 1 = .ok (.getfield 224, 3) := by decide +kernel
theorem dX11_costOf_4 : decode cX11_costOf 4 = .ok (.iconst (-1), 1) := by decide +kernel
theorem dX11_costOf_5 : decode cX11_costOf 5 = .ok (.if_icmp .ne 7, 3) := by decide +kernel
theorem dX11_costOf_8 : decode cX11_costOf 8 = .ok (.iconst 0, 1) := by decide +kernel
theorem dX11_costOf_9 : decode cX11_costOf 9 = .ok (.goto 12, 3) := by decide +kernel
theorem dX11_costOf_12 : decode cX11_costOf 12 = .ok (.aload_n 0, 1) := by decide +kernel
theorem dX11_costOf_13 : decode cX11_costOf 13 = .ok (.getfield 249, 3) := by decide +kernel
theorem dX11_costOf_16 : decode cX11_costOf 16 = .ok (.aload_n 0, 1) := by decide +kernel
theorem dX11_costOf_17 : decode cX11_costOf 17 = .ok (.getfield 224, 3) := by decide +kernel
theorem dX11_costOf_20 : decode cX11_costOf 20 = .ok (.iaload, 1) := by decide +kernel
theorem dX11_costOf_21 : decode cX11_costOf 21 = .ok (.ireturn, 1) := by decide +kernel
theorem dX11_areCoins_0 : decode cX11_areCoins 0 = .ok (.iload_n 0, 1) := by decide +kernel
theorem dX11_areCoins_1 : decode cX11_areCoins 1 = .ok (.i2l, 1) := by decide +kernel
theorem dX11_areCoins_2 : decode cX11_areCoins 2 = .ok (.lconst 0, 1) := by decide +kernel
theorem dX11_areCoins_3 : decode cX11_areCoins 3 = .ok (.ldc2_w 361, 3) := by decide +kernel
theorem dX11_areCoins_6 : decode cX11_areCoins 6 = .ok (.invokestatic 52, 3) := by decide +kernel
theorem dX11_areCoins_9 : decode cX11_areCoins 9 = .ok (.ireturn, 1) := by decide +kernel
theorem dX11_isStore_0 : decode cX11_isStore 0 = .ok (.iload_n 0, 1) := by decide +kernel
theorem dX11_isStore_1 : decode cX11_isStore 1 = .ok (.i2l, 1) := by decide +kernel
theorem dX11_isStore_2 : decode cX11_isStore 2 = .ok (.lconst 0, 1) := by decide +kernel
theorem dX11_isStore_3 : decode cX11_isStore 3 = .ok (.ldc2_w 378, 3) := by decide +kernel
theorem dX11_isStore_6 : decode cX11_isStore 6 = .ok (.invokestatic 52, 3) := by decide +kernel
theorem dX11_isStore_9 : decode cX11_isStore 9 = .ok (.ireturn, 1) := by decide +kernel
theorem dX11_behindNight_0 : decode cX11_behindNight 0 = .ok (.iconst 0, 1) := by decide +kernel
theorem dX11_behindNight_1 : decode cX11_behindNight 1 = .ok (.iload_n 1, 1) := by decide +kernel
theorem dX11_behindNight_2 : decode cX11_behindNight 2 = .ok (.iload_n 1, 1) := by decide +kernel
theorem dX11_behindNight_3 : decode cX11_behindNight 3 = .ok (.iload_n 3, 1) := by decide +kernel
theorem dX11_behindNight_4 : decode cX11_behindNight 4 = .ok (.invokestatic 380, 3) := by decide +kernel
theorem dX11_behindNight_7 : decode cX11_behindNight 7 = .ok (.isub, 1) := by decide +kernel
theorem dX11_behindNight_8 : decode cX11_behindNight 8 = .ok (.aload_n 0, 1) := by decide +kernel
theorem dX11_behindNight_9 : decode cX11_behindNight 9 = .ok (.invokevirtual 384, 3) := by decide +kernel
theorem dX11_behindNight_12 : decode cX11_behindNight 12 = .ok (.iload_n 2, 1) := by decide +kernel
theorem dX11_behindNight_13 : decode cX11_behindNight 13 = .ok (.imul, 1) := by decide +kernel
theorem dX11_behindNight_14 : decode cX11_behindNight 14 = .ok (.isub, 1) := by decide +kernel
theorem dX11_behindNight_15 : decode cX11_behindNight 15 = .ok (.invokestatic 387, 3) := by decide +kernel
theorem dX11_behindNight_18 : decode cX11_behindNight 18 = .ok (.ireturn, 1) := by decide +kernel
theorem dX11_leftOf_0 : decode cX11_leftOf 0 = .ok (.aload_n 0, 1) := by decide +kernel
theorem dX11_leftOf_1 : decode cX11_leftOf 1 = .ok (.getfield 224, 3) := by decide +kernel
theorem dX11_leftOf_4 : decode cX11_leftOf 4 = .ok (.iconst (-1), 1) := by decide +kernel
theorem dX11_leftOf_5 : decode cX11_leftOf 5 = .ok (.if_icmp .ne 7, 3) := by decide +kernel
theorem dX11_leftOf_8 : decode cX11_leftOf 8 = .ok (.iconst 0, 1) := by decide +kernel
theorem dX11_leftOf_9 : decode cX11_leftOf 9 = .ok (.goto 20, 3) := by decide +kernel
theorem dX11_leftOf_12 : decode cX11_leftOf 12 = .ok (.iload_n 1, 1) := by decide +kernel
theorem dX11_leftOf_13 : decode cX11_leftOf 13 = .ok (.iload_n 1, 1) := by decide +kernel
theorem dX11_leftOf_14 : decode cX11_leftOf 14 = .ok (.aload_n 0, 1) := by decide +kernel
theorem dX11_leftOf_15 : decode cX11_leftOf 15 = .ok (.getfield 246, 3) := by decide +kernel
theorem dX11_leftOf_18 : decode cX11_leftOf 18 = .ok (.aload_n 0, 1) := by decide +kernel
theorem dX11_leftOf_19 : decode cX11_leftOf 19 = .ok (.getfield 224, 3) := by decide +kernel
theorem dX11_leftOf_22 : decode cX11_leftOf 22 = .ok (.iaload, 1) := by decide +kernel
theorem dX11_leftOf_23 : decode cX11_leftOf 23 = .ok (.imul, 1) := by decide +kernel
theorem dX11_leftOf_24 : decode cX11_leftOf 24 = .ok (.sipush 1000, 3) := by decide +kernel
theorem dX11_leftOf_27 : decode cX11_leftOf 27 = .ok (.idiv, 1) := by decide +kernel
theorem dX11_leftOf_28 : decode cX11_leftOf 28 = .ok (.isub, 1) := by decide +kernel
theorem dX11_leftOf_29 : decode cX11_leftOf 29 = .ok (.ireturn, 1) := by decide +kernel
theorem dX11_night_0 : decode cX11_night 0 = .ok (.iload_n 1, 1) := by decide +kernel
theorem dX11_night_1 : decode cX11_night 1 = .ok (.invokestatic 392, 3) := by decide +kernel
theorem dX11_night_4 : decode cX11_night 4 = .ok (.ifCond .eq 43, 3) := by decide +kernel
theorem dX11_night_7 : decode cX11_night 7 = .ok (.iload_n 2, 1) := by decide +kernel
theorem dX11_night_8 : decode cX11_night 8 = .ok (.invokestatic 395, 3) := by decide +kernel
theorem dX11_night_11 : decode cX11_night 11 = .ok (.ifCond .eq 36, 3) := by decide +kernel
theorem dX11_night_14 : decode cX11_night 14 = .ok (.iload_n 3, 1) := by decide +kernel
theorem dX11_night_15 : decode cX11_night 15 = .ok (.invokestatic 370, 3) := by decide +kernel
theorem dX11_night_18 : decode cX11_night 18 = .ok (.ifCond .eq 29, 3) := by decide +kernel
theorem dX11_night_21 : decode cX11_night 21 = .ok (.aload_n 0, 1) := by decide +kernel
theorem dX11_night_22 : decode cX11_night 22 = .ok (.getfield 332, 3) := by decide +kernel
theorem dX11_night_25 : decode cX11_night 25 = .ok (.ifCond .gt 7, 3) := by decide +kernel
theorem dX11_night_28 : decode cX11_night 28 = .ok (.iload_n 2, 1) := by decide +kernel
theorem dX11_night_29 : decode cX11_night 29 = .ok (.ifCond .ne 18, 3) := by decide +kernel
theorem dX11_night_32 : decode cX11_night 32 = .ok (.aload_n 0, 1) := by decide +kernel
theorem dX11_night_33 : decode cX11_night 33 = .ok (.iload_n 1, 1) := by decide +kernel
theorem dX11_night_34 : decode cX11_night 34 = .ok (.iload_n 2, 1) := by decide +kernel
theorem dX11_night_35 : decode cX11_night 35 = .ok (.aload_n 0, 1) := by decide +kernel
theorem dX11_night_36 : decode cX11_night 36 = .ok (.getfield 233, 3) := by decide +kernel
theorem dX11_night_39 : decode cX11_night 39 = .ok (.iload_n 3, 1) := by decide +kernel
theorem dX11_night_40 : decode cX11_night 40 = .ok (.iaload, 1) := by decide +kernel
theorem dX11_night_41 : decode cX11_night 41 = .ok (.invokevirtual 398, 3) := by decide +kernel
theorem dX11_night_44 : decode cX11_night 44 = .ok (.goto 5, 3) := by decide +kernel
theorem dX11_night_47 : decode cX11_night 47 = .ok (.bipush (-2), 2) := by decide +kernel
theorem dX11_night_49 : decode cX11_night 49 = .ok (.ireturn, 1) := by decide +kernel
theorem dX11_costAt_0 : decode cX11_costAt 0 = .ok (.iload_n 1, 1) := by decide +kernel
theorem dX11_costAt_1 : decode cX11_costAt 1 = .ok (.iconst (-1), 1) := by decide +kernel
theorem dX11_costAt_2 : decode cX11_costAt 2 = .ok (.if_icmp .ne 7, 3) := by decide +kernel
theorem dX11_costAt_5 : decode cX11_costAt 5 = .ok (.iconst 0, 1) := by decide +kernel
theorem dX11_costAt_6 : decode cX11_costAt 6 = .ok (.goto 14, 3) := by decide +kernel
theorem dX11_costAt_9 : decode cX11_costAt 9 = .ok (.aload_n 0, 1) := by decide +kernel
theorem dX11_costAt_10 : decode cX11_costAt 10 = .ok (.getfield 257, 3) := by decide +kernel
theorem dX11_costAt_13 : decode cX11_costAt 13 = .ok (.bipush 7, 2) := by decide +kernel
theorem dX11_costAt_15 : decode cX11_costAt 15 = .ok (.iload_n 1, 1) := by decide +kernel
theorem dX11_costAt_16 : decode cX11_costAt 16 = .ok (.imul, 1) := by decide +kernel
theorem dX11_costAt_17 : decode cX11_costAt 17 = .ok (.iload_n 2, 1) := by decide +kernel
theorem dX11_costAt_18 : decode cX11_costAt 18 = .ok (.iadd, 1) := by decide +kernel
theorem dX11_costAt_19 : decode cX11_costAt 19 = .ok (.iaload, 1) := by decide +kernel
theorem dX11_costAt_20 : decode cX11_costAt 20 = .ok (.ireturn, 1) := by decide +kernel
theorem dX11_paysFor_0 : decode cX11_paysFor 0 = .ok (.iload_n 3, 1) := by decide +kernel
theorem dX11_paysFor_1 : decode cX11_paysFor 1 = .ok (.iconst 4, 1) := by decide +kernel
theorem dX11_paysFor_2 : decode cX11_paysFor 2 = .ok (.irem, 1) := by decide +kernel
theorem dX11_paysFor_3 : decode cX11_paysFor 3 = .ok (.aload_n 0, 1) := by decide +kernel
theorem dX11_paysFor_4 : decode cX11_paysFor 4 = .ok (.aload_n 0, 1) := by decide +kernel
theorem dX11_paysFor_5 : decode cX11_paysFor 5 = .ok (.getfield 261, 3) := by decide +kernel
theorem dX11_paysFor_8 : decode cX11_paysFor 8 = .ok (.bipush 7, 2) := by decide +kernel
theorem dX11_paysFor_10 : decode cX11_paysFor 10 = .ok (.iload_n 1, 1) := by decide +kernel
theorem dX11_paysFor_11 : decode cX11_paysFor 11 = .ok (.imul, 1) := by decide +kernel
theorem dX11_paysFor_12 : decode cX11_paysFor 12 = .ok (.iload_n 2, 1) := by decide +kernel
theorem dX11_paysFor_13 : decode cX11_paysFor 13 = .ok (.iadd, 1) := by decide +kernel
theorem dX11_paysFor_14 : decode cX11_paysFor 14 = .ok (.iaload, 1) := by decide +kernel
theorem dX11_paysFor_15 : decode cX11_paysFor 15 = .ok (.iload_n 2, 1) := by decide +kernel
theorem dX11_paysFor_16 : decode cX11_paysFor 16 = .ok (.invokevirtual 402, 3) := by decide +kernel
theorem dX11_paysFor_19 : decode cX11_paysFor 19 = .ok (.imul, 1) := by decide +kernel
theorem dX11_paysFor_20 : decode cX11_paysFor 20 = .ok (.iload_n 3, 1) := by decide +kernel
theorem dX11_paysFor_21 : decode cX11_paysFor 21 = .ok (.bipush 16, 2) := by decide +kernel
theorem dX11_paysFor_23 : decode cX11_paysFor 23 = .ok (.idiv, 1) := by decide +kernel
theorem dX11_paysFor_24 : decode cX11_paysFor 24 = .ok (.aload_n 0, 1) := by decide +kernel
theorem dX11_paysFor_25 : decode cX11_paysFor 25 = .ok (.aload_n 0, 1) := by decide +kernel
theorem dX11_paysFor_26 : decode cX11_paysFor 26 = .ok (.getfield 224, 3) := by decide +kernel
theorem dX11_paysFor_29 : decode cX11_paysFor 29 = .ok (.iload_n 2, 1) := by decide +kernel
theorem dX11_paysFor_30 : decode cX11_paysFor 30 = .ok (.invokevirtual 402, 3) := by decide +kernel
theorem dX11_paysFor_33 : decode cX11_paysFor 33 = .ok (.imul, 1) := by decide +kernel
theorem dX11_paysFor_34 : decode cX11_paysFor 34 = .ok (.iadd, 1) := by decide +kernel
theorem dX11_paysFor_35 : decode cX11_paysFor 35 = .ok (.ireturn, 1) := by decide +kernel
theorem dX11_mayDo_0 : decode cX11_mayDo 0 = .ok (.iload 5, 2) := by decide +kernel
theorem dX11_mayDo_2 : decode cX11_mayDo 2 = .ok (.iconst 4, 1) := by decide +kernel
theorem dX11_mayDo_3 : decode cX11_mayDo 3 = .ok (.irem, 1) := by decide +kernel
theorem dX11_mayDo_4 : decode cX11_mayDo 4 = .ok (.istore 6, 2) := by decide +kernel
theorem dX11_mayDo_6 : decode cX11_mayDo 6 = .ok (.iload 5, 2) := by decide +kernel
theorem dX11_mayDo_8 : decode cX11_mayDo 8 = .ok (.iconst 4, 1) := by decide +kernel
theorem dX11_mayDo_9 : decode cX11_mayDo 9 = .ok (.idiv, 1) := by decide +kernel
theorem dX11_mayDo_10 : decode cX11_mayDo 10 = .ok (.iconst 4, 1) := by decide +kernel
theorem dX11_mayDo_11 : decode cX11_mayDo 11 = .ok (.irem, 1) := by decide +kernel
theorem dX11_mayDo_12 : decode cX11_mayDo 12 = .ok (.istore 7, 2) := by decide +kernel
theorem dX11_mayDo_14 : decode cX11_mayDo 14 = .ok (.iload 5, 2) := by decide +kernel
theorem dX11_mayDo_16 : decode cX11_mayDo 16 = .ok (.bipush 16, 2) := by decide +kernel
theorem dX11_mayDo_18 : decode cX11_mayDo 18 = .ok (.idiv, 1) := by decide +kernel
theorem dX11_mayDo_19 : decode cX11_mayDo 19 = .ok (.istore 8, 2) := by decide +kernel
theorem dX11_mayDo_21 : decode cX11_mayDo 21 = .ok (.bipush 7, 2) := by decide +kernel
theorem dX11_mayDo_23 : decode cX11_mayDo 23 = .ok (.iload_n 1, 1) := by decide +kernel
theorem dX11_mayDo_24 : decode cX11_mayDo 24 = .ok (.imul, 1) := by decide +kernel
theorem dX11_mayDo_25 : decode cX11_mayDo 25 = .ok (.iload_n 2, 1) := by decide +kernel
theorem dX11_mayDo_26 : decode cX11_mayDo 26 = .ok (.iadd, 1) := by decide +kernel
theorem dX11_mayDo_27 : decode cX11_mayDo 27 = .ok (.istore 9, 2) := by decide +kernel
theorem dX11_mayDo_29 : decode cX11_mayDo 29 = .ok (.iload 6, 2) := by decide +kernel
theorem dX11_mayDo_31 : decode cX11_mayDo 31 = .ok (.iload 7, 2) := by decide +kernel
theorem dX11_mayDo_33 : decode cX11_mayDo 33 = .ok (.iadd, 1) := by decide +kernel
theorem dX11_mayDo_34 : decode cX11_mayDo 34 = .ok (.aload_n 0, 1) := by decide +kernel
theorem dX11_mayDo_35 : decode cX11_mayDo 35 = .ok (.getfield 264, 3) := by decide +kernel
theorem dX11_mayDo_38 : decode cX11_mayDo 38 = .ok (.iload 9, 2) := by decide +kernel
theorem dX11_mayDo_40 : decode cX11_mayDo 40 = .ok (.iaload, 1) := by decide +kernel
theorem dX11_mayDo_41 : decode cX11_mayDo 41 = .ok (.if_icmp .gt 22, 3) := by decide +kernel
theorem dX11_mayDo_44 : decode cX11_mayDo 44 = .ok (.iload 7, 2) := by decide +kernel
theorem dX11_mayDo_46 : decode cX11_mayDo 46 = .ok (.iload 4, 2) := by decide +kernel
theorem dX11_mayDo_48 : decode cX11_mayDo 48 = .ok (.if_icmp .gt 15, 3) := by decide +kernel
theorem dX11_mayDo_51 : decode cX11_mayDo 51 = .ok (.iload 4, 2) := by decide +kernel
theorem dX11_mayDo_53 : decode cX11_mayDo 53 = .ok (.iload 7, 2) := by decide +kernel
theorem dX11_mayDo_55 : decode cX11_mayDo 55 = .ok (.isub, 1) := by decide +kernel
theorem dX11_mayDo_56 : decode cX11_mayDo 56 = .ok (.iload 8, 2) := by decide +kernel
theorem dX11_mayDo_58 : decode cX11_mayDo 58 = .ok (.iadd, 1) := by decide +kernel
theorem dX11_mayDo_59 : decode cX11_mayDo 59 = .ok (.iconst 5, 1) := by decide +kernel
theorem dX11_mayDo_60 : decode cX11_mayDo 60 = .ok (.if_icmp .le 5, 3) := by decide +kernel
theorem dX11_mayDo_63 : decode cX11_mayDo 63 = .ok (.iconst 0, 1) := by decide +kernel
theorem dX11_mayDo_64 : decode cX11_mayDo 64 = .ok (.ireturn, 1) := by decide +kernel
theorem dX11_mayDo_65 : decode cX11_mayDo 65 = .ok (.iload 7, 2) := by decide +kernel
theorem dX11_mayDo_67 : decode cX11_mayDo 67 = .ok (.ifCond .le 17, 3) := by decide +kernel
theorem dX11_mayDo_70 : decode cX11_mayDo 70 = .ok (.aload_n 0, 1) := by decide +kernel
theorem dX11_mayDo_71 : decode cX11_mayDo 71 = .ok (.getfield 261, 3) := by decide +kernel
theorem dX11_mayDo_74 : decode cX11_mayDo 74 = .ok (.iload 9, 2) := by decide +kernel
theorem dX11_mayDo_76 : decode cX11_mayDo 76 = .ok (.iaload, 1) := by decide +kernel
theorem dX11_mayDo_77 : decode cX11_mayDo 77 = .ok (.aload_n 0, 1) := by decide +kernel
theorem dX11_mayDo_78 : decode cX11_mayDo 78 = .ok (.getfield 224, 3) := by decide +kernel
theorem dX11_mayDo_81 : decode cX11_mayDo 81 = .ok (.if_icmp .ne 16, 3) := by decide +kernel
theorem dX11_mayDo_84 : decode cX11_mayDo 84 = .ok (.iload 8, 2) := by decide +kernel
theorem dX11_mayDo_86 : decode cX11_mayDo 86 = .ok (.ifCond .le 13, 3) := by decide +kernel
theorem dX11_mayDo_89 : decode cX11_mayDo 89 = .ok (.aload_n 0, 1) := by decide +kernel
theorem dX11_mayDo_90 : decode cX11_mayDo 90 = .ok (.getfield 224, 3) := by decide +kernel
theorem dX11_mayDo_93 : decode cX11_mayDo 93 = .ok (.iconst (-1), 1) := by decide +kernel
theorem dX11_mayDo_94 : decode cX11_mayDo 94 = .ok (.if_icmp .ne 5, 3) := by decide +kernel
theorem dX11_mayDo_97 : decode cX11_mayDo 97 = .ok (.iconst 0, 1) := by decide +kernel
theorem dX11_mayDo_98 : decode cX11_mayDo 98 = .ok (.ireturn, 1) := by decide +kernel
theorem dX11_mayDo_99 : decode cX11_mayDo 99 = .ok (.aload_n 0, 1) := by decide +kernel
theorem dX11_mayDo_100 : decode cX11_mayDo 100 = .ok (.getfield 244, 3) := by decide +kernel
theorem dX11_mayDo_103 : decode cX11_mayDo 103 = .ok (.iload_n 1, 1) := by decide +kernel
theorem dX11_mayDo_104 : decode cX11_mayDo 104 = .ok (.iaload, 1) := by decide +kernel
theorem dX11_mayDo_105 : decode cX11_mayDo 105 = .ok (.iload_n 2, 1) := by decide +kernel
theorem dX11_mayDo_106 : decode cX11_mayDo 106 = .ok (.ishr, 1) := by decide +kernel
theorem dX11_mayDo_107 : decode cX11_mayDo 107 = .ok (.iconst 1, 1) := by decide +kernel
theorem dX11_mayDo_108 : decode cX11_mayDo 108 = .ok (.iand, 1) := by decide +kernel
theorem dX11_mayDo_109 : decode cX11_mayDo 109 = .ok (.iconst 1, 1) := by decide +kernel
theorem dX11_mayDo_110 : decode cX11_mayDo 110 = .ok (.if_icmp .ne 13, 3) := by decide +kernel
theorem dX11_mayDo_113 : decode cX11_mayDo 113 = .ok (.iload 6, 2) := by decide +kernel
theorem dX11_mayDo_115 : decode cX11_mayDo 115 = .ok (.iload 8, 2) := by decide +kernel
theorem dX11_mayDo_117 : decode cX11_mayDo 117 = .ok (.iadd, 1) := by decide +kernel
theorem dX11_mayDo_118 : decode cX11_mayDo 118 = .ok (.ifCond .le 5, 3) := by decide +kernel
theorem dX11_mayDo_121 : decode cX11_mayDo 121 = .ok (.iconst 0, 1) := by decide +kernel
theorem dX11_mayDo_122 : decode cX11_mayDo 122 = .ok (.ireturn, 1) := by decide +kernel
theorem dX11_mayDo_123 : decode cX11_mayDo 123 = .ok (.aload_n 0, 1) := by decide +kernel
theorem dX11_mayDo_124 : decode cX11_mayDo 124 = .ok (.iload_n 1, 1) := by decide +kernel
theorem dX11_mayDo_125 : decode cX11_mayDo 125 = .ok (.iload_n 2, 1) := by decide +kernel
theorem dX11_mayDo_126 : decode cX11_mayDo 126 = .ok (.iload 5, 2) := by decide +kernel
theorem dX11_mayDo_128 : decode cX11_mayDo 128 = .ok (.invokevirtual 405, 3) := by decide +kernel
theorem dX11_mayDo_131 : decode cX11_mayDo 131 = .ok (.iload_n 3, 1) := by decide +kernel
theorem dX11_mayDo_132 : decode cX11_mayDo 132 = .ok (.if_icmp .gt 7, 3) := by decide +kernel
theorem dX11_mayDo_135 : decode cX11_mayDo 135 = .ok (.iconst 1, 1) := by decide +kernel
theorem dX11_mayDo_136 : decode cX11_mayDo 136 = .ok (.goto 4, 3) := by decide +kernel
theorem dX11_mayDo_139 : decode cX11_mayDo 139 = .ok (.iconst 0, 1) := by decide +kernel
theorem dX11_mayDo_140 : decode cX11_mayDo 140 = .ok (.ireturn, 1) := by decide +kernel
theorem dX11_may_0 : decode cX11_may 0 = .ok (.aload_n 0, 1) := by decide +kernel
theorem dX11_may_1 : decode cX11_may 1 = .ok (.iload_n 1, 1) := by decide +kernel
theorem dX11_may_2 : decode cX11_may 2 = .ok (.invokevirtual 367, 3) := by decide +kernel
theorem dX11_may_5 : decode cX11_may 5 = .ok (.ifCond .eq 38, 3) := by decide +kernel
theorem dX11_may_8 : decode cX11_may 8 = .ok (.iload_n 2, 1) := by decide +kernel
theorem dX11_may_9 : decode cX11_may 9 = .ok (.invokestatic 370, 3) := by decide +kernel
theorem dX11_may_12 : decode cX11_may 12 = .ok (.ifCond .eq 31, 3) := by decide +kernel
theorem dX11_may_15 : decode cX11_may 15 = .ok (.iload_n 3, 1) := by decide +kernel
theorem dX11_may_16 : decode cX11_may 16 = .ok (.invokestatic 392, 3) := by decide +kernel
theorem dX11_may_19 : decode cX11_may 19 = .ok (.ifCond .eq 24, 3) := by decide +kernel
theorem dX11_may_22 : decode cX11_may 22 = .ok (.iload 4, 2) := by decide +kernel
theorem dX11_may_24 : decode cX11_may 24 = .ok (.invokestatic 395, 3) := by decide +kernel
theorem dX11_may_27 : decode cX11_may 27 = .ok (.ifCond .eq 16, 3) := by decide +kernel
theorem dX11_may_30 : decode cX11_may 30 = .ok (.iload 5, 2) := by decide +kernel
theorem dX11_may_32 : decode cX11_may 32 = .ok (.i2l, 1) := by decide +kernel
theorem dX11_may_33 : decode cX11_may 33 = .ok (.lconst 0, 1) := by decide +kernel
theorem dX11_may_34 : decode cX11_may 34 = .ok (.ldc2_w 408, 3) := by decide +kernel
theorem dX11_may_37 : decode cX11_may 37 = .ok (.invokestatic 52, 3) := by decide +kernel
theorem dX11_may_40 : decode cX11_may 40 = .ok (.ifCond .ne 8, 3) := by decide +kernel
theorem dX11_may_43 : decode cX11_may 43 = .ok (.bipush (-2), 2) := by decide +kernel
theorem dX11_may_45 : decode cX11_may 45 = .ok (.goto 22, 3) := by decide +kernel
theorem dX11_may_48 : decode cX11_may 48 = .ok (.aload_n 0, 1) := by decide +kernel
theorem dX11_may_49 : decode cX11_may 49 = .ok (.iload_n 1, 1) := by decide +kernel
theorem dX11_may_50 : decode cX11_may 50 = .ok (.iload_n 2, 1) := by decide +kernel
theorem dX11_may_51 : decode cX11_may 51 = .ok (.iload_n 3, 1) := by decide +kernel
theorem dX11_may_52 : decode cX11_may 52 = .ok (.iload 4, 2) := by decide +kernel
theorem dX11_may_54 : decode cX11_may 54 = .ok (.iload 5, 2) := by decide +kernel
theorem dX11_may_56 : decode cX11_may 56 = .ok (.invokevirtual 410, 3) := by decide +kernel
theorem dX11_may_59 : decode cX11_may 59 = .ok (.ifCond .eq 7, 3) := by decide +kernel
theorem dX11_may_62 : decode cX11_may 62 = .ok (.iconst 1, 1) := by decide +kernel
theorem dX11_may_63 : decode cX11_may 63 = .ok (.goto 4, 3) := by decide +kernel
theorem dX11_may_66 : decode cX11_may 66 = .ok (.iconst 0, 1) := by decide +kernel
theorem dX11_may_67 : decode cX11_may 67 = .ok (.ireturn, 1) := by decide +kernel
theorem dX11_loses_0 : decode cX11_loses 0 = .ok (.aload_n 0, 1) := by decide +kernel
theorem dX11_loses_1 : decode cX11_loses 1 = .ok (.getfield 273, 3) := by decide +kernel
theorem dX11_loses_4 : decode cX11_loses 4 = .ok (.iconst (-1), 1) := by decide +kernel
theorem dX11_loses_5 : decode cX11_loses 5 = .ok (.if_icmp .eq 12, 3) := by decide +kernel
theorem dX11_loses_8 : decode cX11_loses 8 = .ok (.aload_n 0, 1) := by decide +kernel
theorem dX11_loses_9 : decode cX11_loses 9 = .ok (.getfield 233, 3) := by decide +kernel
theorem dX11_loses_12 : decode cX11_loses 12 = .ok (.iload_n 1, 1) := by decide +kernel
theorem dX11_loses_13 : decode cX11_loses 13 = .ok (.iaload, 1) := by decide +kernel
theorem dX11_loses_14 : decode cX11_loses 14 = .ok (.ifCond .ne 12, 3) := by decide +kernel
theorem dX11_loses_17 : decode cX11_loses 17 = .ok (.aload_n 0, 1) := by decide +kernel
theorem dX11_loses_18 : decode cX11_loses 18 = .ok (.getfield 233, 3) := by decide +kernel
theorem dX11_loses_21 : decode cX11_loses 21 = .ok (.iload_n 1, 1) := by decide +kernel
theorem dX11_loses_22 : decode cX11_loses 22 = .ok (.iaload, 1) := by decide +kernel
theorem dX11_loses_23 : decode cX11_loses 23 = .ok (.goto 7, 3) := by decide +kernel
theorem dX11_loses_26 : decode cX11_loses 26 = .ok (.aload_n 0, 1) := by decide +kernel
theorem dX11_loses_27 : decode cX11_loses 27 = .ok (.getfield 273, 3) := by decide +kernel
theorem dX11_loses_30 : decode cX11_loses 30 = .ok (.ireturn, 1) := by decide +kernel
theorem dX11_bestFrom_0 : decode cX11_bestFrom 0 = .ok (.iconst (-1), 1) := by decide +kernel
theorem dX11_bestFrom_1 : decode cX11_bestFrom 1 = .ok (.istore 6, 2) := by decide +kernel
theorem dX11_bestFrom_3 : decode cX11_bestFrom 3 = .ok (.bipush 7, 2) := by decide +kernel
theorem dX11_bestFrom_5 : decode cX11_bestFrom 5 = .ok (.iload_n 1, 1) := by decide +kernel
theorem dX11_bestFrom_6 : decode cX11_bestFrom 6 = .ok (.imul, 1) := by decide +kernel
theorem dX11_bestFrom_7 : decode cX11_bestFrom 7 = .ok (.iload_n 2, 1) := by decide +kernel
theorem dX11_bestFrom_8 : decode cX11_bestFrom 8 = .ok (.iadd, 1) := by decide +kernel
theorem dX11_bestFrom_9 : decode cX11_bestFrom 9 = .ok (.istore 7, 2) := by decide +kernel
theorem dX11_bestFrom_11 : decode cX11_bestFrom 11 = .ok (.aload_n 0, 1) := by decide +kernel
theorem dX11_bestFrom_12 : decode cX11_bestFrom 12 = .ok (.getfield 244, 3) := by decide +kernel
theorem dX11_bestFrom_15 : decode cX11_bestFrom 15 = .ok (.iload_n 1, 1) := by decide +kernel
theorem dX11_bestFrom_16 : decode cX11_bestFrom 16 = .ok (.iaload, 1) := by decide +kernel
theorem dX11_bestFrom_17 : decode cX11_bestFrom 17 = .ok (.iload_n 2, 1) := by decide +kernel
theorem dX11_bestFrom_18 : decode cX11_bestFrom 18 = .ok (.ishr, 1) := by decide +kernel
theorem dX11_bestFrom_19 : decode cX11_bestFrom 19 = .ok (.iconst 1, 1) := by decide +kernel
theorem dX11_bestFrom_20 : decode cX11_bestFrom 20 = .ok (.iand, 1) := by decide +kernel
theorem dX11_bestFrom_21 : decode cX11_bestFrom 21 = .ok (.iconst 1, 1) := by decide +kernel
theorem dX11_bestFrom_22 : decode cX11_bestFrom 22 = .ok (.if_icmp .ne 7, 3) := by decide +kernel
theorem dX11_bestFrom_25 : decode cX11_bestFrom 25 = .ok (.iconst 1, 1) := by decide +kernel
theorem dX11_bestFrom_26 : decode cX11_bestFrom 26 = .ok (.goto 4, 3) := by decide +kernel
theorem dX11_bestFrom_29 : decode cX11_bestFrom 29 = .ok (.iconst 0, 1) := by decide +kernel
theorem dX11_bestFrom_30 : decode cX11_bestFrom 30 = .ok (.istore 8, 2) := by decide +kernel
theorem dX11_bestFrom_32 : decode cX11_bestFrom 32 = .ok (.aload_n 0, 1) := by decide +kernel
theorem dX11_bestFrom_33 : decode cX11_bestFrom 33 = .ok (.iload_n 2, 1) := by decide +kernel
theorem dX11_bestFrom_34 : decode cX11_bestFrom 34 = .ok (.invokevirtual 414, 3) := by decide +kernel
theorem dX11_bestFrom_37 : decode cX11_bestFrom 37 = .ok (.istore 9, 2) := by decide +kernel
theorem dX11_bestFrom_39 : decode cX11_bestFrom 39 = .ok (.aload_n 0, 1) := by decide +kernel
theorem dX11_bestFrom_40 : decode cX11_bestFrom 40 = .ok (.aload_n 0, 1) := by decide +kernel
theorem dX11_bestFrom_41 : decode cX11_bestFrom 41 = .ok (.getfield 261, 3) := by decide +kernel
theorem dX11_bestFrom_44 : decode cX11_bestFrom 44 = .ok (.iload 7, 2) := by decide +kernel
theorem dX11_bestFrom_46 : decode cX11_bestFrom 46 = .ok (.iaload, 1) := by decide +kernel
theorem dX11_bestFrom_47 : decode cX11_bestFrom 47 = .ok (.iload_n 2, 1) := by decide +kernel
theorem dX11_bestFrom_48 : decode cX11_bestFrom 48 = .ok (.invokevirtual 402, 3) := by decide +kernel
theorem dX11_bestFrom_51 : decode cX11_bestFrom 51 = .ok (.istore 10, 2) := by decide +kernel
theorem dX11_bestFrom_53 : decode cX11_bestFrom 53 = .ok (.aload_n 0, 1) := by decide +kernel
theorem dX11_bestFrom_54 : decode cX11_bestFrom 54 = .ok (.aload_n 0, 1) := by decide +kernel
theorem dX11_bestFrom_55 : decode cX11_bestFrom 55 = .ok (.getfield 224, 3) := by decide +kernel
theorem dX11_bestFrom_58 : decode cX11_bestFrom 58 = .ok (.iload_n 2, 1) := by decide +kernel
theorem dX11_bestFrom_59 : decode cX11_bestFrom 59 = .ok (.invokevirtual 402, 3) := by decide +kernel
theorem dX11_bestFrom_62 : decode cX11_bestFrom 62 = .ok (.istore 11, 2) := by decide +kernel
theorem dX11_bestFrom_64 : decode cX11_bestFrom 64 = .ok (.aload_n 0, 1) := by decide +kernel
theorem dX11_bestFrom_65 : decode cX11_bestFrom 65 = .ok (.getfield 264, 3) := by decide +kernel
theorem dX11_bestFrom_68 : decode cX11_bestFrom 68 = .ok (.iload 7, 2) := by decide +kernel
theorem dX11_bestFrom_70 : decode cX11_bestFrom 70 = .ok (.iaload, 1) := by decide +kernel
theorem dX11_bestFrom_71 : decode cX11_bestFrom 71 = .ok (.ifCond .le 32, 3) := by decide +kernel
theorem dX11_bestFrom_74 : decode cX11_bestFrom 74 = .ok (.aload_n 0, 1) := by decide +kernel
theorem dX11_bestFrom_75 : decode cX11_bestFrom 75 = .ok (.getfield 261, 3) := by decide +kernel
theorem dX11_bestFrom_78 : decode cX11_bestFrom 78 = .ok (.iload 7, 2) := by decide +kernel
theorem dX11_bestFrom_80 : decode cX11_bestFrom 80 = .ok (.iaload, 1) := by decide +kernel
theorem dX11_bestFrom_81 : decode cX11_bestFrom 81 = .ok (.aload_n 0, 1) := by decide +kernel
theorem dX11_bestFrom_82 : decode cX11_bestFrom 82 = .ok (.getfield 224, 3) := by decide +kernel
theorem dX11_bestFrom_85 : decode cX11_bestFrom 85 = .ok (.if_icmp .ne 18, 3) := by decide +kernel
theorem dX11_bestFrom_88 : decode cX11_bestFrom 88 = .ok (.aload_n 0, 1) := by decide +kernel
theorem dX11_bestFrom_89 : decode cX11_bestFrom 89 = .ok (.getfield 264, 3) := by decide +kernel
theorem dX11_bestFrom_92 : decode cX11_bestFrom 92 = .ok (.iload 7, 2) := by decide +kernel
theorem dX11_bestFrom_94 : decode cX11_bestFrom 94 = .ok (.iaload, 1) := by decide +kernel
theorem dX11_bestFrom_95 : decode cX11_bestFrom 95 = .ok (.iload 4, 2) := by decide +kernel
theorem dX11_bestFrom_97 : decode cX11_bestFrom 97 = .ok (.invokestatic 417, 3) := by decide +kernel
theorem dX11_bestFrom_100 : decode cX11_bestFrom 100 = .ok (.goto 4, 3) := by decide +kernel
theorem dX11_bestFrom_103 : decode cX11_bestFrom 103 = .ok (.iconst 0, 1) := by decide +kernel
theorem dX11_bestFrom_104 : decode cX11_bestFrom 104 = .ok (.istore 12, 2) := by decide +kernel
theorem dX11_bestFrom_106 : decode cX11_bestFrom 106 = .ok (.iconst 0, 1) := by decide +kernel
theorem dX11_bestFrom_107 : decode cX11_bestFrom 107 = .ok (.istore 13, 2) := by decide +kernel
theorem dX11_bestFrom_109 : decode cX11_bestFrom 109 = .ok (.iload 13, 2) := by decide +kernel
theorem dX11_bestFrom_111 : decode cX11_bestFrom 111 = .ok (.iload 8, 2) := by decide +kernel
theorem dX11_bestFrom_113 : decode cX11_bestFrom 113 = .ok (.ifCond .ne 11, 3) := by decide +kernel
theorem dX11_bestFrom_116 : decode cX11_bestFrom 116 = .ok (.aload_n 0, 1) := by decide +kernel
theorem dX11_bestFrom_117 : decode cX11_bestFrom 117 = .ok (.getfield 224, 3) := by decide +kernel
theorem dX11_bestFrom_120 : decode cX11_bestFrom 120 = .ok (.iconst (-1), 1) := by decide +kernel
theorem dX11_bestFrom_121 : decode cX11_bestFrom 121 = .ok (.if_icmp .ne 7, 3) := by decide +kernel
theorem dX11_bestFrom_124 : decode cX11_bestFrom 124 = .ok (.iconst 0, 1) := by decide +kernel
theorem dX11_bestFrom_125 : decode cX11_bestFrom 125 = .ok (.goto 4, 3) := by decide +kernel
theorem dX11_bestFrom_128 : decode cX11_bestFrom 128 = .ok (.iconst 2, 1) := by decide +kernel
theorem dX11_bestFrom_129 : decode cX11_bestFrom 129 = .ok (.if_icmp .gt 219, 3) := by decide +kernel
theorem dX11_bestFrom_132 : decode cX11_bestFrom 132 = .ok (.iload 13, 2) := by decide +kernel
theorem dX11_bestFrom_134 : decode cX11_bestFrom 134 = .ok (.iload 11, 2) := by decide +kernel
theorem dX11_bestFrom_136 : decode cX11_bestFrom 136 = .ok (.imul, 1) := by decide +kernel
theorem dX11_bestFrom_137 : decode cX11_bestFrom 137 = .ok (.iload_n 3, 1) := by decide +kernel
theorem dX11_bestFrom_138 : decode cX11_bestFrom 138 = .ok (.if_icmp .gt 210, 3) := by decide +kernel
theorem dX11_bestFrom_141 : decode cX11_bestFrom 141 = .ok (.iconst 0, 1) := by decide +kernel
theorem dX11_bestFrom_142 : decode cX11_bestFrom 142 = .ok (.istore 14, 2) := by decide +kernel
theorem dX11_bestFrom_144 : decode cX11_bestFrom 144 = .ok (.iload 14, 2) := by decide +kernel
theorem dX11_bestFrom_146 : decode cX11_bestFrom 146 = .ok (.iload 12, 2) := by decide +kernel
theorem dX11_bestFrom_148 : decode cX11_bestFrom 148 = .ok (.if_icmp .gt 194, 3) := by decide +kernel
theorem dX11_bestFrom_151 : decode cX11_bestFrom 151 = .ok (.iload 4, 2) := by decide +kernel
theorem dX11_bestFrom_153 : decode cX11_bestFrom 153 = .ok (.iload 14, 2) := by decide +kernel
theorem dX11_bestFrom_155 : decode cX11_bestFrom 155 = .ok (.isub, 1) := by decide +kernel
theorem dX11_bestFrom_156 : decode cX11_bestFrom 156 = .ok (.iload 13, 2) := by decide +kernel
theorem dX11_bestFrom_158 : decode cX11_bestFrom 158 = .ok (.iadd, 1) := by decide +kernel
theorem dX11_bestFrom_159 : decode cX11_bestFrom 159 = .ok (.istore 15, 2) := by decide +kernel
theorem dX11_bestFrom_161 : decode cX11_bestFrom 161 = .ok (.iconst 0, 1) := by decide +kernel
theorem dX11_bestFrom_162 : decode cX11_bestFrom 162 = .ok (.istore 16, 2) := by decide +kernel
theorem dX11_bestFrom_164 : decode cX11_bestFrom 164 = .ok (.iload 15, 2) := by decide +kernel
theorem dX11_bestFrom_166 : decode cX11_bestFrom 166 = .ok (.iconst 5, 1) := by decide +kernel
theorem dX11_bestFrom_167 : decode cX11_bestFrom 167 = .ok (.if_icmp .gt 169, 3) := by decide +kernel
theorem dX11_bestFrom_170 : decode cX11_bestFrom 170 = .ok (.iload 16, 2) := by decide +kernel
theorem dX11_bestFrom_172 : decode cX11_bestFrom 172 = .ok (.iload 8, 2) := by decide +kernel
theorem dX11_bestFrom_174 : decode cX11_bestFrom 174 = .ok (.ifCond .eq 7, 3) := by decide +kernel
theorem dX11_bestFrom_177 : decode cX11_bestFrom 177 = .ok (.iconst 0, 1) := by decide +kernel
theorem dX11_bestFrom_178 : decode cX11_bestFrom 178 = .ok (.goto 13, 3) := by decide +kernel
theorem dX11_bestFrom_181 : decode cX11_bestFrom 181 = .ok (.aload_n 0, 1) := by decide +kernel
theorem dX11_bestFrom_182 : decode cX11_bestFrom 182 = .ok (.getfield 264, 3) := by decide +kernel
theorem dX11_bestFrom_185 : decode cX11_bestFrom 185 = .ok (.iload 7, 2) := by decide +kernel
theorem dX11_bestFrom_187 : decode cX11_bestFrom 187 = .ok (.iaload, 1) := by decide +kernel
theorem dX11_bestFrom_188 : decode cX11_bestFrom 188 = .ok (.iload 14, 2) := by decide +kernel
theorem dX11_bestFrom_190 : decode cX11_bestFrom 190 = .ok (.isub, 1) := by decide +kernel
theorem dX11_bestFrom_191 : decode cX11_bestFrom 191 = .ok (.if_icmp .gt 145, 3) := by decide +kernel
theorem dX11_bestFrom_194 : decode cX11_bestFrom 194 = .ok (.iload 16, 2) := by decide +kernel
theorem dX11_bestFrom_196 : decode cX11_bestFrom 196 = .ok (.iload 10, 2) := by decide +kernel
theorem dX11_bestFrom_198 : decode cX11_bestFrom 198 = .ok (.imul, 1) := by decide +kernel
theorem dX11_bestFrom_199 : decode cX11_bestFrom 199 = .ok (.iload 13, 2) := by decide +kernel
theorem dX11_bestFrom_201 : decode cX11_bestFrom 201 = .ok (.iload 11, 2) := by decide +kernel
theorem dX11_bestFrom_203 : decode cX11_bestFrom 203 = .ok (.imul, 1) := by decide +kernel
theorem dX11_bestFrom_204 : decode cX11_bestFrom 204 = .ok (.iadd, 1) := by decide +kernel
theorem dX11_bestFrom_205 : decode cX11_bestFrom 205 = .ok (.iload_n 3, 1) := by decide +kernel
theorem dX11_bestFrom_206 : decode cX11_bestFrom 206 = .ok (.if_icmp .gt 130, 3) := by decide +kernel
theorem dX11_bestFrom_209 : decode cX11_bestFrom 209 = .ok (.aload_n 0, 1) := by decide +kernel
theorem dX11_bestFrom_210 : decode cX11_bestFrom 210 = .ok (.iload_n 3, 1) := by decide +kernel
theorem dX11_bestFrom_211 : decode cX11_bestFrom 211 = .ok (.iload 16, 2) := by decide +kernel
theorem dX11_bestFrom_213 : decode cX11_bestFrom 213 = .ok (.iload 10, 2) := by decide +kernel
theorem dX11_bestFrom_215 : decode cX11_bestFrom 215 = .ok (.imul, 1) := by decide +kernel
theorem dX11_bestFrom_216 : decode cX11_bestFrom 216 = .ok (.isub, 1) := by decide +kernel
theorem dX11_bestFrom_217 : decode cX11_bestFrom 217 = .ok (.iload 13, 2) := by decide +kernel
theorem dX11_bestFrom_219 : decode cX11_bestFrom 219 = .ok (.iload 11, 2) := by decide +kernel
theorem dX11_bestFrom_221 : decode cX11_bestFrom 221 = .ok (.imul, 1) := by decide +kernel
theorem dX11_bestFrom_222 : decode cX11_bestFrom 222 = .ok (.isub, 1) := by decide +kernel
theorem dX11_bestFrom_223 : decode cX11_bestFrom 223 = .ok (.iload 15, 2) := by decide +kernel
theorem dX11_bestFrom_225 : decode cX11_bestFrom 225 = .ok (.iload 9, 2) := by decide +kernel
theorem dX11_bestFrom_227 : decode cX11_bestFrom 227 = .ok (.invokevirtual 398, 3) := by decide +kernel
theorem dX11_bestFrom_230 : decode cX11_bestFrom 230 = .ok (.istore 17, 2) := by decide +kernel
theorem dX11_bestFrom_232 : decode cX11_bestFrom 232 = .ok (.iload 5, 2) := by decide +kernel
theorem dX11_bestFrom_234 : decode cX11_bestFrom 234 = .ok (.iconst 1, 1) := by decide +kernel
theorem dX11_bestFrom_235 : decode cX11_bestFrom 235 = .ok (.if_icmp .ne 7, 3) := by decide +kernel
theorem dX11_bestFrom_238 : decode cX11_bestFrom 238 = .ok (.iconst 0, 1) := by decide +kernel
theorem dX11_bestFrom_239 : decode cX11_bestFrom 239 = .ok (.goto 40, 3) := by decide +kernel
theorem dX11_bestFrom_242 : decode cX11_bestFrom 242 = .ok (.aload_n 0, 1) := by decide +kernel
theorem dX11_bestFrom_243 : decode cX11_bestFrom 243 = .ok (.getfield 270, 3) := by decide +kernel
theorem dX11_bestFrom_246 : decode cX11_bestFrom 246 = .ok (.sipush 366, 3) := by decide +kernel
theorem dX11_bestFrom_249 : decode cX11_bestFrom 249 = .ok (.iload 5, 2) := by decide +kernel
theorem dX11_bestFrom_251 : decode cX11_bestFrom 251 = .ok (.iconst 1, 1) := by decide +kernel
theorem dX11_bestFrom_252 : decode cX11_bestFrom 252 = .ok (.isub, 1) := by decide +kernel
theorem dX11_bestFrom_253 : decode cX11_bestFrom 253 = .ok (.imul, 1) := by decide +kernel
theorem dX11_bestFrom_254 : decode cX11_bestFrom 254 = .ok (.bipush 6, 2) := by decide +kernel
theorem dX11_bestFrom_256 : decode cX11_bestFrom 256 = .ok (.iload 17, 2) := by decide +kernel
theorem dX11_bestFrom_258 : decode cX11_bestFrom 258 = .ok (.imul, 1) := by decide +kernel
theorem dX11_bestFrom_259 : decode cX11_bestFrom 259 = .ok (.iadd, 1) := by decide +kernel
theorem dX11_bestFrom_260 : decode cX11_bestFrom 260 = .ok (.aload_n 0, 1) := by decide +kernel
theorem dX11_bestFrom_261 : decode cX11_bestFrom 261 = .ok (.iload 15, 2) := by decide +kernel
theorem dX11_bestFrom_263 : decode cX11_bestFrom 263 = .ok (.invokevirtual 420, 3) := by decide +kernel
theorem dX11_bestFrom_266 : decode cX11_bestFrom 266 = .ok (.iadd, 1) := by decide +kernel
theorem dX11_bestFrom_267 : decode cX11_bestFrom 267 = .ok (.iaload, 1) := by decide +kernel
theorem dX11_bestFrom_268 : decode cX11_bestFrom 268 = .ok (.aload_n 0, 1) := by decide +kernel
theorem dX11_bestFrom_269 : decode cX11_bestFrom 269 = .ok (.getfield 238, 3) := by decide +kernel
theorem dX11_bestFrom_272 : decode cX11_bestFrom 272 = .ok (.iload_n 1, 1) := by decide +kernel
theorem dX11_bestFrom_273 : decode cX11_bestFrom 273 = .ok (.iaload, 1) := by decide +kernel
theorem dX11_bestFrom_274 : decode cX11_bestFrom 274 = .ok (.imul, 1) := by decide +kernel
theorem dX11_bestFrom_275 : decode cX11_bestFrom 275 = .ok (.sipush 1000, 3) := by decide +kernel
theorem dX11_bestFrom_278 : decode cX11_bestFrom 278 = .ok (.idiv, 1) := by decide +kernel
theorem dX11_bestFrom_279 : decode cX11_bestFrom 279 = .ok (.istore 18, 2) := by decide +kernel
theorem dX11_bestFrom_281 : decode cX11_bestFrom 281 = .ok (.iload 16, 2) := by decide +kernel
theorem dX11_bestFrom_283 : decode cX11_bestFrom 283 = .ok (.iload 14, 2) := by decide +kernel
theorem dX11_bestFrom_285 : decode cX11_bestFrom 285 = .ok (.iadd, 1) := by decide +kernel
theorem dX11_bestFrom_286 : decode cX11_bestFrom 286 = .ok (.aload_n 0, 1) := by decide +kernel
theorem dX11_bestFrom_287 : decode cX11_bestFrom 287 = .ok (.getfield 267, 3) := by decide +kernel
theorem dX11_bestFrom_290 : decode cX11_bestFrom 290 = .ok (.iload 7, 2) := by decide +kernel
theorem dX11_bestFrom_292 : decode cX11_bestFrom 292 = .ok (.iaload, 1) := by decide +kernel
theorem dX11_bestFrom_293 : decode cX11_bestFrom 293 = .ok (.imul, 1) := by decide +kernel
theorem dX11_bestFrom_294 : decode cX11_bestFrom 294 = .ok (.iload 18, 2) := by decide +kernel
theorem dX11_bestFrom_296 : decode cX11_bestFrom 296 = .ok (.iadd, 1) := by decide +kernel
theorem dX11_bestFrom_297 : decode cX11_bestFrom 297 = .ok (.istore 19, 2) := by decide +kernel
theorem dX11_bestFrom_299 : decode cX11_bestFrom 299 = .ok (.iload 19, 2) := by decide +kernel
theorem dX11_bestFrom_301 : decode cX11_bestFrom 301 = .ok (.iload 6, 2) := by decide +kernel
theorem dX11_bestFrom_303 : decode cX11_bestFrom 303 = .ok (.if_icmp .gt 6, 3) := by decide +kernel
theorem dX11_bestFrom_306 : decode cX11_bestFrom 306 = .ok (.goto 24, 3) := by decide +kernel
theorem dX11_bestFrom_309 : decode cX11_bestFrom 309 = .ok (.iload 19, 2) := by decide +kernel
theorem dX11_bestFrom_311 : decode cX11_bestFrom 311 = .ok (.istore 6, 2) := by decide +kernel
theorem dX11_bestFrom_313 : decode cX11_bestFrom 313 = .ok (.aload_n 0, 1) := by decide +kernel
theorem dX11_bestFrom_314 : decode cX11_bestFrom 314 = .ok (.bipush 16, 2) := by decide +kernel
theorem dX11_bestFrom_316 : decode cX11_bestFrom 316 = .ok (.iload 13, 2) := by decide +kernel
theorem dX11_bestFrom_318 : decode cX11_bestFrom 318 = .ok (.imul, 1) := by decide +kernel
theorem dX11_bestFrom_319 : decode cX11_bestFrom 319 = .ok (.iconst 4, 1) := by decide +kernel
theorem dX11_bestFrom_320 : decode cX11_bestFrom 320 = .ok (.iload 14, 2) := by decide +kernel
theorem dX11_bestFrom_322 : decode cX11_bestFrom 322 = .ok (.imul, 1) := by decide +kernel
theorem dX11_bestFrom_323 : decode cX11_bestFrom 323 = .ok (.iadd, 1) := by decide +kernel
theorem dX11_bestFrom_324 : decode cX11_bestFrom 324 = .ok (.iload 16, 2) := by decide +kernel
theorem dX11_bestFrom_326 : decode cX11_bestFrom 326 = .ok (.iadd, 1) := by decide +kernel
theorem dX11_bestFrom_327 : decode cX11_bestFrom 327 = .ok (.putfield 423, 3) := by decide +kernel
theorem dX11_bestFrom_330 : decode cX11_bestFrom 330 = .ok (.iinc 16 1, 3) := by decide +kernel
theorem dX11_bestFrom_333 : decode cX11_bestFrom 333 = .ok (.goto (-169), 3) := by decide +kernel
theorem dX11_bestFrom_336 : decode cX11_bestFrom 336 = .ok (.iinc 14 1, 3) := by decide +kernel
theorem dX11_bestFrom_339 : decode cX11_bestFrom 339 = .ok (.goto (-195), 3) := by decide +kernel
theorem dX11_bestFrom_342 : decode cX11_bestFrom 342 = .ok (.iinc 13 1, 3) := by decide +kernel
theorem dX11_bestFrom_345 : decode cX11_bestFrom 345 = .ok (.goto (-236), 3) := by decide +kernel
theorem dX11_bestFrom_348 : decode cX11_bestFrom 348 = .ok (.iload 6, 2) := by decide +kernel
theorem dX11_bestFrom_350 : decode cX11_bestFrom 350 = .ok (.ireturn, 1) := by decide +kernel
theorem dX11_earned_0 : decode cX11_earned 0 = .ok (.bipush 60, 2) := by decide +kernel
theorem dX11_earned_2 : decode cX11_earned 2 = .ok (.iload_n 3, 1) := by decide +kernel
theorem dX11_earned_3 : decode cX11_earned 3 = .ok (.aload_n 0, 1) := by decide +kernel
theorem dX11_earned_4 : decode cX11_earned 4 = .ok (.getfield 252, 3) := by decide +kernel
theorem dX11_earned_7 : decode cX11_earned 7 = .ok (.bipush 7, 2) := by decide +kernel
theorem dX11_earned_9 : decode cX11_earned 9 = .ok (.iload_n 1, 1) := by decide +kernel
theorem dX11_earned_10 : decode cX11_earned 10 = .ok (.imul, 1) := by decide +kernel
theorem dX11_earned_11 : decode cX11_earned 11 = .ok (.iload_n 2, 1) := by decide +kernel
theorem dX11_earned_12 : decode cX11_earned 12 = .ok (.iadd, 1) := by decide +kernel
theorem dX11_earned_13 : decode cX11_earned 13 = .ok (.iaload, 1) := by decide +kernel
theorem dX11_earned_14 : decode cX11_earned 14 = .ok (.iadd, 1) := by decide +kernel
theorem dX11_earned_15 : decode cX11_earned 15 = .ok (.invokestatic 417, 3) := by decide +kernel
theorem dX11_earned_18 : decode cX11_earned 18 = .ok (.ireturn, 1) := by decide +kernel
theorem dX11_findBest_0 : decode cX11_findBest 0 = .ok (.iconst 1, 1) := by decide +kernel
theorem dX11_findBest_1 : decode cX11_findBest 1 = .ok (.istore 4, 2) := by decide +kernel
theorem dX11_findBest_3 : decode cX11_findBest 3 = .ok (.iload 4, 2) := by decide +kernel
theorem dX11_findBest_5 : decode cX11_findBest 5 = .ok (.iload_n 3, 1) := by decide +kernel
theorem dX11_findBest_6 : decode cX11_findBest 6 = .ok (.if_icmp .ge 91, 3) := by decide +kernel
theorem dX11_findBest_9 : decode cX11_findBest 9 = .ok (.iload_n 2, 1) := by decide +kernel
theorem dX11_findBest_10 : decode cX11_findBest 10 = .ok (.iload_n 3, 1) := by decide +kernel
theorem dX11_findBest_11 : decode cX11_findBest 11 = .ok (.iadd, 1) := by decide +kernel
theorem dX11_findBest_12 : decode cX11_findBest 12 = .ok (.iload 4, 2) := by decide +kernel
theorem dX11_findBest_14 : decode cX11_findBest 14 = .ok (.isub, 1) := by decide +kernel
theorem dX11_findBest_15 : decode cX11_findBest 15 = .ok (.bipush 7, 2) := by decide +kernel
theorem dX11_findBest_17 : decode cX11_findBest 17 = .ok (.irem, 1) := by decide +kernel
theorem dX11_findBest_18 : decode cX11_findBest 18 = .ok (.istore 5, 2) := by decide +kernel
theorem dX11_findBest_20 : decode cX11_findBest 20 = .ok (.iconst 0, 1) := by decide +kernel
theorem dX11_findBest_21 : decode cX11_findBest 21 = .ok (.istore 6, 2) := by decide +kernel
theorem dX11_findBest_23 : decode cX11_findBest 23 = .ok (.iload 6, 2) := by decide +kernel
theorem dX11_findBest_25 : decode cX11_findBest 25 = .ok (.bipush 60, 2) := by decide +kernel
theorem dX11_findBest_27 : decode cX11_findBest 27 = .ok (.if_icmp .gt 64, 3) := by decide +kernel
theorem dX11_findBest_30 : decode cX11_findBest 30 = .ok (.iconst 0, 1) := by decide +kernel
theorem dX11_findBest_31 : decode cX11_findBest 31 = .ok (.istore 7, 2) := by decide +kernel
theorem dX11_findBest_33 : decode cX11_findBest 33 = .ok (.iload 7, 2) := by decide +kernel
theorem dX11_findBest_35 : decode cX11_findBest 35 = .ok (.iconst 5, 1) := by decide +kernel
theorem dX11_findBest_36 : decode cX11_findBest 36 = .ok (.if_icmp .gt 49, 3) := by decide +kernel
theorem dX11_findBest_39 : decode cX11_findBest 39 = .ok (.aload_n 0, 1) := by decide +kernel
theorem dX11_findBest_40 : decode cX11_findBest 40 = .ok (.getfield 270, 3) := by decide +kernel
theorem dX11_findBest_43 : decode cX11_findBest 43 = .ok (.sipush 366, 3) := by decide +kernel
theorem dX11_findBest_46 : decode cX11_findBest 46 = .ok (.iload 4, 2) := by decide +kernel
theorem dX11_findBest_48 : decode cX11_findBest 48 = .ok (.imul, 1) := by decide +kernel
theorem dX11_findBest_49 : decode cX11_findBest 49 = .ok (.bipush 6, 2) := by decide +kernel
theorem dX11_findBest_51 : decode cX11_findBest 51 = .ok (.iload 6, 2) := by decide +kernel
theorem dX11_findBest_53 : decode cX11_findBest 53 = .ok (.imul, 1) := by decide +kernel
theorem dX11_findBest_54 : decode cX11_findBest 54 = .ok (.iadd, 1) := by decide +kernel
theorem dX11_findBest_55 : decode cX11_findBest 55 = .ok (.iload 7, 2) := by decide +kernel
theorem dX11_findBest_57 : decode cX11_findBest 57 = .ok (.iadd, 1) := by decide +kernel
theorem dX11_findBest_58 : decode cX11_findBest 58 = .ok (.aload_n 0, 1) := by decide +kernel
theorem dX11_findBest_59 : decode cX11_findBest 59 = .ok (.iload_n 1, 1) := by decide +kernel
theorem dX11_findBest_60 : decode cX11_findBest 60 = .ok (.iload 5, 2) := by decide +kernel
theorem dX11_findBest_62 : decode cX11_findBest 62 = .ok (.aload_n 0, 1) := by decide +kernel
