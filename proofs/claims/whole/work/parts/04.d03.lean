theorem dX9_scoresTogether_19 : decode cX9_scoresTogether 19 = .ok (.i2l, 1) := by decide +kernel
theorem dX9_scoresTogether_20 : decode cX9_scoresTogether 20 = .ok (.aload_n 0, 1) := by decide +kernel
theorem dX9_scoresTogether_21 : decode cX9_scoresTogether 21 = .ok (.getfield 29, 3) := by decide +kernel
theorem dX9_scoresTogether_24 : decode cX9_scoresTogether 24 = .ok (.iload_n 3, 1) := by decide +kernel
theorem dX9_scoresTogether_25 : decode cX9_scoresTogether 25 = .ok (.iaload, 1) := by decide +kernel
theorem dX9_scoresTogether_26 : decode cX9_scoresTogether 26 = .ok (.i2l, 1) := by decide +kernel
theorem dX9_scoresTogether_27 : decode cX9_scoresTogether 27 = .ok (.lmul, 1) := by decide +kernel
theorem dX9_scoresTogether_28 : decode cX9_scoresTogether 28 = .ok (.ladd, 1) := by decide +kernel
theorem dX9_scoresTogether_29 : decode cX9_scoresTogether 29 = .ok (.lstore_n 1, 1) := by decide +kernel
theorem dX9_scoresTogether_30 : decode cX9_scoresTogether 30 = .ok (.iinc 3 1, 3) := by decide +kernel
theorem dX9_scoresTogether_33 : decode cX9_scoresTogether 33 = .ok (.goto (-29), 3) := by decide +kernel
theorem dX9_scoresTogether_36 : decode cX9_scoresTogether 36 = .ok (.lload_n 1, 1) := by decide +kernel
theorem dX9_scoresTogether_37 : decode cX9_scoresTogether 37 = .ok (.lreturn, 1) := by decide +kernel
theorem dX10_init_0 : decode cX10_init 0 = .ok (.aload_n 0, 1) := by decide +kernel
theorem dX10_init_1 : decode cX10_init 1 = .ok (.invokespecial 3, 3) := by decide +kernel
theorem dX10_init_4 : decode cX10_init 4 = .ok (.aload_n 0, 1) := by decide +kernel
theorem dX10_init_5 : decode cX10_init 5 = .ok (.bipush 61, 2) := by decide +kernel
theorem dX10_init_7 : decode cX10_init 7 = .ok (.newarray .double, 2) := by decide +kernel
theorem dX10_init_9 : decode cX10_init 9 = .ok (.putfield 11, 3) := by decide +kernel
theorem dX10_init_12 : decode cX10_init 12 = .ok (.aload_n 0, 1) := by decide +kernel
theorem dX10_init_13 : decode cX10_init 13 = .ok (.sipush 3721, 3) := by decide +kernel
theorem dX10_init_16 : decode cX10_init 16 = .ok (.newarray .int, 2) := by decide +kernel
theorem dX10_init_18 : decode cX10_init 18 = .ok (.putfield 15, 3) := by decide +kernel
theorem dX10_init_21 : decode cX10_init 21 = .ok (.aload_n 0, 1) := by decide +kernel
theorem dX10_init_22 : decode cX10_init 22 = .ok (.bipush 61, 2) := by decide +kernel
theorem dX10_init_24 : decode cX10_init 24 = .ok (.newarray .double, 2) := by decide +kernel
theorem dX10_init_26 : decode cX10_init 26 = .ok (.putfield 19, 3) := by decide +kernel
theorem dX10_init_29 : decode cX10_init 29 = .ok (.aload_n 0, 1) := by decide +kernel
theorem dX10_init_30 : decode cX10_init 30 = .ok (.bipush 61, 2) := by decide +kernel
theorem dX10_init_32 : decode cX10_init 32 = .ok (.newarray .double, 2) := by decide +kernel
theorem dX10_init_34 : decode cX10_init 34 = .ok (.putfield 22, 3) := by decide +kernel
theorem dX10_init_37 : decode cX10_init 37 = .ok (.return_, 1) := by decide +kernel
theorem dX10_clear_0 : decode cX10_clear 0 = .ok (.aload_n 0, 1) := by decide +kernel
theorem dX10_clear_1 : decode cX10_clear 1 = .ok (.iconst 0, 1) := by decide +kernel
theorem dX10_clear_2 : decode cX10_clear 2 = .ok (.putfield 25, 3) := by decide +kernel
theorem dX10_clear_5 : decode cX10_clear 5 = .ok (.return_, 1) := by decide +kernel
theorem dX10_reach_0 : decode cX10_reach 0 = .ok (.aload_n 0, 1) := by decide +kernel
theorem dX10_reach_1 : decode cX10_reach 1 = .ok (.getfield 25, 3) := by decide +kernel
theorem dX10_reach_4 : decode cX10_reach 4 = .ok (.iload_n 2, 1) := by decide +kernel
theorem dX10_reach_5 : decode cX10_reach 5 = .ok (.if_icmp .ge 91, 3) := by decide +kernel
theorem dX10_reach_8 : decode cX10_reach 8 = .ok (.aload_n 0, 1) := by decide +kernel
theorem dX10_reach_9 : decode cX10_reach 9 = .ok (.getfield 25, 3) := by decide +kernel
theorem dX10_reach_12 : decode cX10_reach 12 = .ok (.aload_n 1, 1) := by decide +kernel
theorem dX10_reach_13 : decode cX10_reach 13 = .ok (.getfield 29, 3) := by decide +kernel
theorem dX10_reach_16 : decode cX10_reach 16 = .ok (.if_icmp .ge 80, 3) := by decide +kernel
theorem dX10_reach_19 : decode cX10_reach 19 = .ok (.aload_n 0, 1) := by decide +kernel
theorem dX10_reach_20 : decode cX10_reach 20 = .ok (.dup, 1) := by decide +kernel
theorem dX10_reach_21 : decode cX10_reach 21 = .ok (.getfield 25, 3) := by decide +kernel
theorem dX10_reach_24 : decode cX10_reach 24 = .ok (.iconst 1, 1) := by decide +kernel
theorem dX10_reach_25 : decode cX10_reach 25 = .ok (.iadd, 1) := by decide +kernel
theorem dX10_reach_26 : decode cX10_reach 26 = .ok (.putfield 25, 3) := by decide +kernel
theorem dX10_reach_29 : decode cX10_reach 29 = .ok (.aload_n 0, 1) := by decide +kernel
theorem dX10_reach_30 : decode cX10_reach 30 = .ok (.getfield 19, 3) := by decide +kernel
theorem dX10_reach_33 : decode cX10_reach 33 = .ok (.astore_n 3, 1) := by decide +kernel
theorem dX10_reach_34 : decode cX10_reach 34 = .ok (.aload_n 0, 1) := by decide +kernel
theorem dX10_reach_35 : decode cX10_reach 35 = .ok (.aload_n 0, 1) := by decide +kernel
theorem dX10_reach_36 : decode cX10_reach 36 = .ok (.getfield 22, 3) := by decide +kernel
theorem dX10_reach_39 : decode cX10_reach 39 = .ok (.putfield 19, 3) := by decide +kernel
theorem dX10_reach_42 : decode cX10_reach 42 = .ok (.aload_n 0, 1) := by decide +kernel
theorem dX10_reach_43 : decode cX10_reach 43 = .ok (.aload_n 3, 1) := by decide +kernel
theorem dX10_reach_44 : decode cX10_reach 44 = .ok (.putfield 22, 3) := by decide +kernel
theorem dX10_reach_47 : decode cX10_reach 47 = .ok (.aload_n 0, 1) := by decide +kernel
theorem dX10_reach_48 : decode cX10_reach 48 = .ok (.getfield 25, 3) := by decide +kernel
theorem dX10_reach_51 : decode cX10_reach 51 = .ok (.istore 4, 2) := by decide +kernel
theorem dX10_reach_53 : decode cX10_reach 53 = .ok (.iload 4, 2) := by decide +kernel
theorem dX10_reach_55 : decode cX10_reach 55 = .ok (.aload_n 1, 1) := by decide +kernel
theorem dX10_reach_56 : decode cX10_reach 56 = .ok (.getfield 29, 3) := by decide +kernel
theorem dX10_reach_59 : decode cX10_reach 59 = .ok (.if_icmp .gt 16, 3) := by decide +kernel
theorem dX10_reach_62 : decode cX10_reach 62 = .ok (.aload_n 0, 1) := by decide +kernel
theorem dX10_reach_63 : decode cX10_reach 63 = .ok (.aload_n 1, 1) := by decide +kernel
theorem dX10_reach_64 : decode cX10_reach 64 = .ok (.iload 4, 2) := by decide +kernel
theorem dX10_reach_66 : decode cX10_reach 66 = .ok (.invokevirtual 34, 3) := by decide +kernel
theorem dX10_reach_69 : decode cX10_reach 69 = .ok (.iinc 4 1, 3) := by decide +kernel
theorem dX10_reach_72 : decode cX10_reach 72 = .ok (.goto (-19), 3) := by decide +kernel
theorem dX10_reach_75 : decode cX10_reach 75 = .ok (.aload_n 0, 1) := by decide +kernel
theorem dX10_reach_76 : decode cX10_reach 76 = .ok (.getfield 11, 3) := by decide +kernel
theorem dX10_reach_79 : decode cX10_reach 79 = .ok (.aload_n 0, 1) := by decide +kernel
theorem dX10_reach_80 : decode cX10_reach 80 = .ok (.getfield 25, 3) := by decide +kernel
theorem dX10_reach_83 : decode cX10_reach 83 = .ok (.aload_n 0, 1) := by decide +kernel
theorem dX10_reach_84 : decode cX10_reach 84 = .ok (.getfield 22, 3) := by decide +kernel
theorem dX10_reach_87 : decode cX10_reach 87 = .ok (.aload_n 1, 1) := by decide +kernel
theorem dX10_reach_88 : decode cX10_reach 88 = .ok (.getfield 29, 3) := by decide +kernel
theorem dX10_reach_91 : decode cX10_reach 91 = .ok (.daload, 1) := by decide +kernel
theorem dX10_reach_92 : decode cX10_reach 92 = .ok (.dastore, 1) := by decide +kernel
theorem dX10_reach_93 : decode cX10_reach 93 = .ok (.goto (-93), 3) := by decide +kernel
theorem dX10_reach_96 : decode cX10_reach 96 = .ok (.return_, 1) := by decide +kernel
theorem dX10_tellFor_0 : decode cX10_tellFor 0 = .ok (.aload_n 0, 1) := by decide +kernel
theorem dX10_tellFor_1 : decode cX10_tellFor 1 = .ok (.getfield 25, 3) := by decide +kernel
theorem dX10_tellFor_4 : decode cX10_tellFor 4 = .ok (.iconst 1, 1) := by decide +kernel
theorem dX10_tellFor_5 : decode cX10_tellFor 5 = .ok (.if_icmp .ne 26, 3) := by decide +kernel
theorem dX10_tellFor_8 : decode cX10_tellFor 8 = .ok (.aload_n 0, 1) := by decide +kernel
theorem dX10_tellFor_9 : decode cX10_tellFor 9 = .ok (.getfield 22, 3) := by decide +kernel
theorem dX10_tellFor_12 : decode cX10_tellFor 12 = .ok (.iload_n 2, 1) := by decide +kernel
theorem dX10_tellFor_13 : decode cX10_tellFor 13 = .ok (.aload_n 1, 1) := by decide +kernel
theorem dX10_tellFor_14 : decode cX10_tellFor 14 = .ok (.iconst 0, 1) := by decide +kernel
theorem dX10_tellFor_15 : decode cX10_tellFor 15 = .ok (.iload_n 2, 1) := by decide +kernel
theorem dX10_tellFor_16 : decode cX10_tellFor 16 = .ok (.invokestatic 38, 3) := by decide +kernel
theorem dX10_tellFor_19 : decode cX10_tellFor 19 = .ok (.dastore, 1) := by decide +kernel
theorem dX10_tellFor_20 : decode cX10_tellFor 20 = .ok (.aload_n 0, 1) := by decide +kernel
theorem dX10_tellFor_21 : decode cX10_tellFor 21 = .ok (.getfield 15, 3) := by decide +kernel
theorem dX10_tellFor_24 : decode cX10_tellFor 24 = .ok (.bipush 61, 2) := by decide +kernel
theorem dX10_tellFor_26 : decode cX10_tellFor 26 = .ok (.iload_n 2, 1) := by decide +kernel
theorem dX10_tellFor_27 : decode cX10_tellFor 27 = .ok (.iadd, 1) := by decide +kernel
theorem dX10_tellFor_28 : decode cX10_tellFor 28 = .ok (.iconst 0, 1) := by decide +kernel
theorem dX10_tellFor_29 : decode cX10_tellFor 29 = .ok (.iastore, 1) := by decide +kernel
theorem dX10_tellFor_30 : decode cX10_tellFor 30 = .ok (.return_, 1) := by decide +kernel
theorem dX10_tellFor_31 : decode cX10_tellFor 31 = .ok (.aload_n 0, 1) := by decide +kernel
theorem dX10_tellFor_32 : decode cX10_tellFor 32 = .ok (.getfield 25, 3) := by decide +kernel
theorem dX10_tellFor_35 : decode cX10_tellFor 35 = .ok (.iconst 1, 1) := by decide +kernel
theorem dX10_tellFor_36 : decode cX10_tellFor 36 = .ok (.isub, 1) := by decide +kernel
theorem dX10_tellFor_37 : decode cX10_tellFor 37 = .ok (.istore_n 3, 1) := by decide +kernel
theorem dX10_tellFor_38 : decode cX10_tellFor 38 = .ok (.aload_n 0, 1) := by decide +kernel
theorem dX10_tellFor_39 : decode cX10_tellFor 39 = .ok (.getfield 19, 3) := by decide +kernel
theorem dX10_tellFor_42 : decode cX10_tellFor 42 = .ok (.iload_n 3, 1) := by decide +kernel
theorem dX10_tellFor_43 : decode cX10_tellFor 43 = .ok (.daload, 1) := by decide +kernel
theorem dX10_tellFor_44 : decode cX10_tellFor 44 = .ok (.aload_n 1, 1) := by decide +kernel
theorem dX10_tellFor_45 : decode cX10_tellFor 45 = .ok (.iload_n 3, 1) := by decide +kernel
theorem dX10_tellFor_46 : decode cX10_tellFor 46 = .ok (.iload_n 2, 1) := by decide +kernel
theorem dX10_tellFor_47 : decode cX10_tellFor 47 = .ok (.invokestatic 38, 3) := by decide +kernel
theorem dX10_tellFor_50 : decode cX10_tellFor 50 = .ok (.dadd, 1) := by decide +kernel
theorem dX10_tellFor_51 : decode cX10_tellFor 51 = .ok (.dstore 4, 2) := by decide +kernel
theorem dX10_tellFor_53 : decode cX10_tellFor 53 = .ok (.aload_n 0, 1) := by decide +kernel
theorem dX10_tellFor_54 : decode cX10_tellFor 54 = .ok (.getfield 25, 3) := by decide +kernel
theorem dX10_tellFor_57 : decode cX10_tellFor 57 = .ok (.istore 6, 2) := by decide +kernel
theorem dX10_tellFor_59 : decode cX10_tellFor 59 = .ok (.iload 6, 2) := by decide +kernel
theorem dX10_tellFor_61 : decode cX10_tellFor 61 = .ok (.iload_n 2, 1) := by decide +kernel
theorem dX10_tellFor_62 : decode cX10_tellFor 62 = .ok (.if_icmp .ge 41, 3) := by decide +kernel
theorem dX10_tellFor_65 : decode cX10_tellFor 65 = .ok (.aload_n 0, 1) := by decide +kernel
theorem dX10_tellFor_66 : decode cX10_tellFor 66 = .ok (.getfield 19, 3) := by decide +kernel
theorem dX10_tellFor_69 : decode cX10_tellFor 69 = .ok (.iload 6, 2) := by decide +kernel
theorem dX10_tellFor_71 : decode cX10_tellFor 71 = .ok (.daload, 1) := by decide +kernel
theorem dX10_tellFor_72 : decode cX10_tellFor 72 = .ok (.aload_n 1, 1) := by decide +kernel
theorem dX10_tellFor_73 : decode cX10_tellFor 73 = .ok (.iload 6, 2) := by decide +kernel
theorem dX10_tellFor_75 : decode cX10_tellFor 75 = .ok (.iload_n 2, 1) := by decide +kernel
theorem dX10_tellFor_76 : decode cX10_tellFor 76 = .ok (.invokestatic 38, 3) := by decide +kernel
theorem dX10_tellFor_79 : decode cX10_tellFor 79 = .ok (.dadd, 1) := by decide +kernel
theorem dX10_tellFor_80 : decode cX10_tellFor 80 = .ok (.dstore 7, 2) := by decide +kernel
theorem dX10_tellFor_82 : decode cX10_tellFor 82 = .ok (.dload 7, 2) := by decide +kernel
theorem dX10_tellFor_84 : decode cX10_tellFor 84 = .ok (.dload 4, 2) := by decide +kernel
theorem dX10_tellFor_86 : decode cX10_tellFor 86 = .ok (.dcmp .g, 1) := by decide +kernel
theorem dX10_tellFor_87 : decode cX10_tellFor 87 = .ok (.ifCond .ge 10, 3) := by decide +kernel
theorem dX10_tellFor_90 : decode cX10_tellFor 90 = .ok (.dload 7, 2) := by decide +kernel
theorem dX10_tellFor_92 : decode cX10_tellFor 92 = .ok (.dstore 4, 2) := by decide +kernel
theorem dX10_tellFor_94 : decode cX10_tellFor 94 = .ok (.iload 6, 2) := by decide +kernel
theorem dX10_tellFor_96 : decode cX10_tellFor 96 = .ok (.istore_n 3, 1) := by decide +kernel
theorem dX10_tellFor_97 : decode cX10_tellFor 97 = .ok (.iinc 6 1, 3) := by decide +kernel
theorem dX10_tellFor_100 : decode cX10_tellFor 100 = .ok (.goto (-41), 3) := by decide +kernel
theorem dX10_tellFor_103 : decode cX10_tellFor 103 = .ok (.aload_n 0, 1) := by decide +kernel
theorem dX10_tellFor_104 : decode cX10_tellFor 104 = .ok (.getfield 22, 3) := by decide +kernel
theorem dX10_tellFor_107 : decode cX10_tellFor 107 = .ok (.iload_n 2, 1) := by decide +kernel
theorem dX10_tellFor_108 : decode cX10_tellFor 108 = .ok (.dload 4, 2) := by decide +kernel
theorem dX10_tellFor_110 : decode cX10_tellFor 110 = .ok (.dastore, 1) := by decide +kernel
theorem dX10_tellFor_111 : decode cX10_tellFor 111 = .ok (.aload_n 0, 1) := by decide +kernel
theorem dX10_tellFor_112 : decode cX10_tellFor 112 = .ok (.getfield 15, 3) := by decide +kernel
theorem dX10_tellFor_115 : decode cX10_tellFor 115 = .ok (.aload_n 0, 1) := by decide +kernel
theorem dX10_tellFor_116 : decode cX10_tellFor 116 = .ok (.getfield 25, 3) := by decide +kernel
theorem dX10_tellFor_119 : decode cX10_tellFor 119 = .ok (.bipush 61, 2) := by decide +kernel
theorem dX10_tellFor_121 : decode cX10_tellFor 121 = .ok (.imul, 1) := by decide +kernel
theorem dX10_tellFor_122 : decode cX10_tellFor 122 = .ok (.iload_n 2, 1) := by decide +kernel
theorem dX10_tellFor_123 : decode cX10_tellFor 123 = .ok (.iadd, 1) := by decide +kernel
theorem dX10_tellFor_124 : decode cX10_tellFor 124 = .ok (.iload_n 3, 1) := by decide +kernel
theorem dX10_tellFor_125 : decode cX10_tellFor 125 = .ok (.iastore, 1) := by decide +kernel
theorem dX10_tellFor_126 : decode cX10_tellFor 126 = .ok (.return_, 1) := by decide +kernel
theorem dX10_runError_0 : decode cX10_runError 0 = .ok (.aload_n 0, 1) := by decide +kernel
theorem dX10_runError_1 : decode cX10_runError 1 = .ok (.getfield 42, 3) := by decide +kernel
theorem dX10_runError_4 : decode cX10_runError 4 = .ok (.iload_n 2, 1) := by decide +kernel
theorem dX10_runError_5 : decode cX10_runError 5 = .ok (.iaload, 1) := by decide +kernel
theorem dX10_runError_6 : decode cX10_runError 6 = .ok (.aload_n 0, 1) := by decide +kernel
theorem dX10_runError_7 : decode cX10_runError 7 = .ok (.getfield 42, 3) := by decide +kernel
theorem dX10_runError_10 : decode cX10_runError 10 = .ok (.iload_n 1, 1) := by decide +kernel
theorem dX10_runError_11 : decode cX10_runError 11 = .ok (.iaload, 1) := by decide +kernel
theorem dX10_runError_12 : decode cX10_runError 12 = .ok (.isub, 1) := by decide +kernel
theorem dX10_runError_13 : decode cX10_runError 13 = .ok (.i2l, 1) := by decide +kernel
theorem dX10_runError_14 : decode cX10_runError 14 = .ok (.lstore_n 3, 1) := by decide +kernel
theorem dX10_runError_15 : decode cX10_runError 15 = .ok (.aload_n 0, 1) := by decide +kernel
theorem dX10_runError_16 : decode cX10_runError 16 = .ok (.getfield 45, 3) := by decide +kernel
theorem dX10_runError_19 : decode cX10_runError 19 = .ok (.iload_n 2, 1) := by decide +kernel
theorem dX10_runError_20 : decode cX10_runError 20 = .ok (.iaload, 1) := by decide +kernel
theorem dX10_runError_21 : decode cX10_runError 21 = .ok (.aload_n 0, 1) := by decide +kernel
theorem dX10_runError_22 : decode cX10_runError 22 = .ok (.getfield 45, 3) := by decide +kernel
theorem dX10_runError_25 : decode cX10_runError 25 = .ok (.iload_n 1, 1) := by decide +kernel
theorem dX10_runError_26 : decode cX10_runError 26 = .ok (.iaload, 1) := by decide +kernel
theorem dX10_runError_27 : decode cX10_runError 27 = .ok (.isub, 1) := by decide +kernel
theorem dX10_runError_28 : decode cX10_runError 28 = .ok (.i2l, 1) := by decide +kernel
theorem dX10_runError_29 : decode cX10_runError 29 = .ok (.lstore 5, 2) := by decide +kernel
theorem dX10_runError_31 : decode cX10_runError 31 = .ok (.lload_n 3, 1) := by decide +kernel
theorem dX10_runError_32 : decode cX10_runError 32 = .ok (.lload 5, 2) := by decide +kernel
theorem dX10_runError_34 : decode cX10_runError 34 = .ok (.lmul, 1) := by decide +kernel
theorem dX10_runError_35 : decode cX10_runError 35 = .ok (.lload_n 3, 1) := by decide +kernel
theorem dX10_runError_36 : decode cX10_runError 36 = .ok (.lload 5, 2) := by decide +kernel
theorem dX10_runError_38 : decode cX10_runError 38 = .ok (.ladd, 1) := by decide +kernel
theorem dX10_runError_39 : decode cX10_runError 39 = .ok (.invokestatic 48, 3) := by decide +kernel
theorem dX10_runError_42 : decode cX10_runError 42 = .ok (.dreturn, 1) := by decide +kernel
theorem dX10_firstRow_0 : decode cX10_firstRow 0 = .ok (.iload_n 3, 1) := by decide +kernel
theorem dX10_firstRow_1 : decode cX10_firstRow 1 = .ok (.istore 4, 2) := by decide +kernel
theorem dX10_firstRow_3 : decode cX10_firstRow 3 = .ok (.iload_n 1, 1) := by decide +kernel
theorem dX10_firstRow_4 : decode cX10_firstRow 4 = .ok (.istore 5, 2) := by decide +kernel
theorem dX10_firstRow_6 : decode cX10_firstRow 6 = .ok (.iload 5, 2) := by decide +kernel
theorem dX10_firstRow_8 : decode cX10_firstRow 8 = .ok (.iload_n 2, 1) := by decide +kernel
theorem dX10_firstRow_9 : decode cX10_firstRow 9 = .ok (.if_icmp .le 24, 3) := by decide +kernel
theorem dX10_firstRow_12 : decode cX10_firstRow 12 = .ok (.aload_n 0, 1) := by decide +kernel
theorem dX10_firstRow_13 : decode cX10_firstRow 13 = .ok (.getfield 15, 3) := by decide +kernel
theorem dX10_firstRow_16 : decode cX10_firstRow 16 = .ok (.iload 5, 2) := by decide +kernel
theorem dX10_firstRow_18 : decode cX10_firstRow 18 = .ok (.bipush 61, 2) := by decide +kernel
theorem dX10_firstRow_20 : decode cX10_firstRow 20 = .ok (.imul, 1) := by decide +kernel
theorem dX10_firstRow_21 : decode cX10_firstRow 21 = .ok (.iload 4, 2) := by decide +kernel
theorem dX10_firstRow_23 : decode cX10_firstRow 23 = .ok (.iadd, 1) := by decide +kernel
theorem dX10_firstRow_24 : decode cX10_firstRow 24 = .ok (.iaload, 1) := by decide +kernel
theorem dX10_firstRow_25 : decode cX10_firstRow 25 = .ok (.istore 4, 2) := by decide +kernel
theorem dX10_firstRow_27 : decode cX10_firstRow 27 = .ok (.iinc 5 (-1), 3) := by decide +kernel
theorem dX10_firstRow_30 : decode cX10_firstRow 30 = .ok (.goto (-24), 3) := by decide +kernel
theorem dX10_firstRow_33 : decode cX10_firstRow 33 = .ok (.iload 4, 2) := by decide +kernel
theorem dX10_firstRow_35 : decode cX10_firstRow 35 = .ok (.ireturn, 1) := by decide +kernel
theorem dX11_init_0 : decode cX11_init 0 = .ok (.aload_n 0, 1) := by decide +kernel
theorem dX11_init_1 : decode cX11_init 1 = .ok (.invokespecial 1, 3) := by decide +kernel
theorem dX11_init_4 : decode cX11_init 4 = .ok (.return_, 1) := by decide +kernel
theorem dX11_seek_0 : decode cX11_seek 0 = .ok (.aload_n 1, 1) := by decide +kernel
theorem dX11_seek_1 : decode cX11_seek 1 = .ok (.getfield 7, 3) := by decide +kernel
theorem dX11_seek_4 : decode cX11_seek 4 = .ok (.istore_n 3, 1) := by decide +kernel
theorem dX11_seek_5 : decode cX11_seek 5 = .ok (.aload_n 1, 1) := by decide +kernel
theorem dX11_seek_6 : decode cX11_seek 6 = .ok (.getfield 7, 3) := by decide +kernel
theorem dX11_seek_9 : decode cX11_seek 9 = .ok (.istore 4, 2) := by decide +kernel
theorem dX11_seek_11 : decode cX11_seek 11 = .ok (.aload_n 1, 1) := by decide +kernel
theorem dX11_seek_12 : decode cX11_seek 12 = .ok (.getfield 7, 3) := by decide +kernel
theorem dX11_seek_15 : decode cX11_seek 15 = .ok (.istore 5, 2) := by decide +kernel
theorem dX11_seek_17 : decode cX11_seek 17 = .ok (.aload_n 1, 1) := by decide +kernel
theorem dX11_seek_18 : decode cX11_seek 18 = .ok (.getfield 7, 3) := by decide +kernel
theorem dX11_seek_21 : decode cX11_seek 21 = .ok (.istore 6, 2) := by decide +kernel
theorem dX11_seek_23 : decode cX11_seek 23 = .ok (.iload 6, 2) := by decide +kernel
theorem dX11_seek_25 : decode cX11_seek 25 = .ok (.ifCond .lt 73, 3) := by decide +kernel
theorem dX11_seek_28 : decode cX11_seek 28 = .ok (.aload_n 1, 1) := by decide +kernel
theorem dX11_seek_29 : decode cX11_seek 29 = .ok (.aload_n 2, 1) := by decide +kernel
theorem dX11_seek_30 : decode cX11_seek 30 = .ok (.iload 6, 2) := by decide +kernel
theorem dX11_seek_32 : decode cX11_seek 32 = .ok (.invokestatic 13, 3) := by decide +kernel
theorem dX11_seek_35 : decode cX11_seek 35 = .ok (.aload_n 1, 1) := by decide +kernel
theorem dX11_seek_36 : decode cX11_seek 36 = .ok (.aload_n 2, 1) := by decide +kernel
theorem dX11_seek_37 : decode cX11_seek 37 = .ok (.iload 5, 2) := by decide +kernel
theorem dX11_seek_39 : decode cX11_seek 39 = .ok (.invokestatic 13, 3) := by decide +kernel
theorem dX11_seek_42 : decode cX11_seek 42 = .ok (.if_icmp .gt 7, 3) := by decide +kernel
theorem dX11_seek_45 : decode cX11_seek 45 = .ok (.iload 6, 2) := by decide +kernel
theorem dX11_seek_47 : decode cX11_seek 47 = .ok (.istore 5, 2) := by decide +kernel
theorem dX11_seek_49 : decode cX11_seek 49 = .ok (.aload_n 1, 1) := by decide +kernel
theorem dX11_seek_50 : decode cX11_seek 50 = .ok (.aload_n 2, 1) := by decide +kernel
theorem dX11_seek_51 : decode cX11_seek 51 = .ok (.iload 6, 2) := by decide +kernel
theorem dX11_seek_53 : decode cX11_seek 53 = .ok (.invokestatic 19, 3) := by decide +kernel
theorem dX11_seek_56 : decode cX11_seek 56 = .ok (.aload_n 1, 1) := by decide +kernel
theorem dX11_seek_57 : decode cX11_seek 57 = .ok (.aload_n 2, 1) := by decide +kernel
theorem dX11_seek_58 : decode cX11_seek 58 = .ok (.iload 5, 2) := by decide +kernel
theorem dX11_seek_60 : decode cX11_seek 60 = .ok (.invokestatic 13, 3) := by decide +kernel
theorem dX11_seek_63 : decode cX11_seek 63 = .ok (.iadd, 1) := by decide +kernel
theorem dX11_seek_64 : decode cX11_seek 64 = .ok (.istore 7, 2) := by decide +kernel
theorem dX11_seek_66 : decode cX11_seek 66 = .ok (.iload 7, 2) := by decide +kernel
theorem dX11_seek_68 : decode cX11_seek 68 = .ok (.aload_n 1, 1) := by decide +kernel
theorem dX11_seek_69 : decode cX11_seek 69 = .ok (.aload_n 2, 1) := by decide +kernel
theorem dX11_seek_70 : decode cX11_seek 70 = .ok (.iload_n 3, 1) := by decide +kernel
theorem dX11_seek_71 : decode cX11_seek 71 = .ok (.invokestatic 19, 3) := by decide +kernel
theorem dX11_seek_74 : decode cX11_seek 74 = .ok (.aload_n 1, 1) := by decide +kernel
theorem dX11_seek_75 : decode cX11_seek 75 = .ok (.aload_n 2, 1) := by decide +kernel
theorem dX11_seek_76 : decode cX11_seek 76 = .ok (.iload 4, 2) := by decide +kernel
theorem dX11_seek_78 : decode cX11_seek 78 = .ok (.invokestatic 13, 3) := by decide +kernel
theorem dX11_seek_81 : decode cX11_seek 81 = .ok (.iadd, 1) := by decide +kernel
theorem dX11_seek_82 : decode cX11_seek 82 = .ok (.if_icmp .gt 10, 3) := by decide +kernel
theorem dX11_seek_85 : decode cX11_seek 85 = .ok (.iload 6, 2) := by decide +kernel
theorem dX11_seek_87 : decode cX11_seek 87 = .ok (.istore_n 3, 1) := by decide +kernel
theorem dX11_seek_88 : decode cX11_seek 88 = .ok (.iload 5, 2) := by decide +kernel
theorem dX11_seek_90 : decode cX11_seek 90 = .ok (.istore 4, 2) := by decide +kernel
theorem dX11_seek_92 : decode cX11_seek 92 = .ok (.iinc 6 (-1), 3) := by decide +kernel
theorem dX11_seek_95 : decode cX11_seek 95 = .ok (.goto (-72), 3) := by decide +kernel
theorem dX11_seek_98 : decode cX11_seek 98 = .ok (.aload_n 0, 1) := by decide +kernel
theorem dX11_seek_99 : decode cX11_seek 99 = .ok (.aload_n 1, 1) := by decide +kernel
theorem dX11_seek_100 : decode cX11_seek 100 = .ok (.iload_n 3, 1) := by decide +kernel
theorem dX11_seek_101 : decode cX11_seek 101 = .ok (.invokevirtual 22, 3) := by decide +kernel
theorem dX11_seek_104 : decode cX11_seek 104 = .ok (.putfield 26, 3) := by decide +kernel
theorem dX11_seek_107 : decode cX11_seek 107 = .ok (.aload_n 0, 1) := by decide +kernel
theorem dX11_seek_108 : decode cX11_seek 108 = .ok (.aload_n 1, 1) := by decide +kernel
theorem dX11_seek_109 : decode cX11_seek 109 = .ok (.iload 4, 2) := by decide +kernel
theorem dX11_seek_111 : decode cX11_seek 111 = .ok (.invokevirtual 22, 3) := by decide +kernel
theorem dX11_seek_114 : decode cX11_seek 114 = .ok (.putfield 29, 3) := by decide +kernel
theorem dX11_seek_117 : decode cX11_seek 117 = .ok (.aload_n 0, 1) := by decide +kernel
theorem dX11_seek_118 : decode cX11_seek 118 = .ok (.aload_n 1, 1) := by decide +kernel
theorem dX11_seek_119 : decode cX11_seek 119 = .ok (.aload_n 2, 1) := by decide +kernel
theorem dX11_seek_120 : decode cX11_seek 120 = .ok (.iload_n 3, 1) := by decide +kernel
theorem dX11_seek_121 : decode cX11_seek 121 = .ok (.invokestatic 19, 3) := by decide +kernel
theorem dX11_seek_124 : decode cX11_seek 124 = .ok (.aload_n 1, 1) := by decide +kernel
theorem dX11_seek_125 : decode cX11_seek 125 = .ok (.aload_n 2, 1) := by decide +kernel
theorem dX11_seek_126 : decode cX11_seek 126 = .ok (.iload 4, 2) := by decide +kernel
theorem dX11_seek_128 : decode cX11_seek 128 = .ok (.invokestatic 13, 3) := by decide +kernel
theorem dX11_seek_131 : decode cX11_seek 131 = .ok (.iadd, 1) := by decide +kernel
theorem dX11_seek_132 : decode cX11_seek 132 = .ok (.putfield 32, 3) := by decide +kernel
theorem dX11_seek_135 : decode cX11_seek 135 = .ok (.return_, 1) := by decide +kernel
theorem dX11_advice_0 : decode cX11_advice 0 = .ok (.iload_n 1, 1) := by decide +kernel
theorem dX11_advice_1 : decode cX11_advice 1 = .ok (.aload_n 0, 1) := by decide +kernel
theorem dX11_advice_2 : decode cX11_advice 2 = .ok (.getfield 26, 3) := by decide +kernel
theorem dX11_advice_5 : decode cX11_advice 5 = .ok (.if_icmp .ge 5, 3) := by decide +kernel
theorem dX11_advice_8 : decode cX11_advice 8 = .ok (.iconst 0, 1) := by decide +kernel
theorem dX11_advice_9 : decode cX11_advice 9 = .ok (.ireturn, 1) := by decide +kernel
theorem dX11_advice_10 : decode cX11_advice 10 = .ok (.iload_n 1, 1) := by decide +kernel
theorem dX11_advice_11 : decode cX11_advice 11 = .ok (.aload_n 0, 1) := by decide +kernel
theorem dX11_advice_12 : decode cX11_advice 12 = .ok (.getfield 29, 3) := by decide +kernel
theorem dX11_advice_15 : decode cX11_advice 15 = .ok (.if_icmp .ge 7, 3) := by decide +kernel
theorem dX11_advice_18 : decode cX11_advice 18 = .ok (.iconst 1, 1) := by decide +kernel
theorem dX11_advice_19 : decode cX11_advice 19 = .ok (.goto 4, 3) := by decide +kernel
theorem dX11_advice_22 : decode cX11_advice 22 = .ok (.iconst 2, 1) := by decide +kernel
theorem dX11_advice_23 : decode cX11_advice 23 = .ok (.ireturn, 1) := by decide +kernel
theorem dX11_fromLower_0 : decode cX11_fromLower 0 = .ok (.aload_n 1, 1) := by decide +kernel
theorem dX11_fromLower_1 : decode cX11_fromLower 1 = .ok (.getfield 35, 3) := by decide +kernel
theorem dX11_fromLower_4 : decode cX11_fromLower 4 = .ok (.aload_n 0, 1) := by decide +kernel
theorem dX11_fromLower_5 : decode cX11_fromLower 5 = .ok (.getfield 40, 3) := by decide +kernel
theorem dX11_fromLower_8 : decode cX11_fromLower 8 = .ok (.iload_n 2, 1) := by decide +kernel
theorem dX11_fromLower_9 : decode cX11_fromLower 9 = .ok (.iaload, 1) := by decide +kernel
theorem dX11_fromLower_10 : decode cX11_fromLower 10 = .ok (.imul, 1) := by decide +kernel
theorem dX11_fromLower_11 : decode cX11_fromLower 11 = .ok (.aload_n 1, 1) := by decide +kernel
theorem dX11_fromLower_12 : decode cX11_fromLower 12 = .ok (.getfield 44, 3) := by decide +kernel
theorem dX11_fromLower_15 : decode cX11_fromLower 15 = .ok (.aload_n 0, 1) := by decide +kernel
theorem dX11_fromLower_16 : decode cX11_fromLower 16 = .ok (.iload_n 2, 1) := by decide +kernel
theorem dX11_fromLower_17 : decode cX11_fromLower 17 = .ok (.invokevirtual 47, 3) := by decide +kernel
theorem dX11_fromLower_20 : decode cX11_fromLower 20 = .ok (.imul, 1) := by decide +kernel
theorem dX11_fromLower_21 : decode cX11_fromLower 21 = .ok (.isub, 1) := by decide +kernel
theorem dX11_fromLower_22 : decode cX11_fromLower 22 = .ok (.ireturn, 1) := by decide +kernel
theorem dX11_fromUpper_0 : decode cX11_fromUpper 0 = .ok (.aload_n 1, 1) := by decide +kernel
theorem dX11_fromUpper_1 : decode cX11_fromUpper 1 = .ok (.getfield 44, 3) := by decide +kernel
theorem dX11_fromUpper_4 : decode cX11_fromUpper 4 = .ok (.aload_n 0, 1) := by decide +kernel
theorem dX11_fromUpper_5 : decode cX11_fromUpper 5 = .ok (.iload_n 2, 1) := by decide +kernel
theorem dX11_fromUpper_6 : decode cX11_fromUpper 6 = .ok (.invokevirtual 47, 3) := by decide +kernel
theorem dX11_fromUpper_9 : decode cX11_fromUpper 9 = .ok (.imul, 1) := by decide +kernel
theorem dX11_fromUpper_10 : decode cX11_fromUpper 10 = .ok (.aload_n 1, 1) := by decide +kernel
theorem dX11_fromUpper_11 : decode cX11_fromUpper 11 = .ok (.getfield 50, 3) := by decide +kernel
theorem dX11_fromUpper_14 : decode cX11_fromUpper 14 = .ok (.aload_n 0, 1) := by decide +kernel
theorem dX11_fromUpper_15 : decode cX11_fromUpper 15 = .ok (.invokevirtual 53, 3) := by decide +kernel
theorem dX11_fromUpper_18 : decode cX11_fromUpper 18 = .ok (.aload_n 0, 1) := by decide +kernel
theorem dX11_fromUpper_19 : decode cX11_fromUpper 19 = .ok (.getfield 57, 3) := by decide +kernel
theorem dX11_fromUpper_22 : decode cX11_fromUpper 22 = .ok (.iload_n 2, 1) := by decide +kernel
theorem dX11_fromUpper_23 : decode cX11_fromUpper 23 = .ok (.iaload, 1) := by decide +kernel
theorem dX11_fromUpper_24 : decode cX11_fromUpper 24 = .ok (.isub, 1) := by decide +kernel
theorem dX11_fromUpper_25 : decode cX11_fromUpper 25 = .ok (.imul, 1) := by decide +kernel
theorem dX11_fromUpper_26 : decode cX11_fromUpper 26 = .ok (.iadd, 1) := by decide +kernel
theorem dX11_fromUpper_27 : decode cX11_fromUpper 27 = .ok (.ireturn, 1) := by decide +kernel
theorem dX12_init_0 : decode cX12_init 0 = .ok (.aload_n 0, 1) := by decide +kernel
theorem dX12_init_1 : decode cX12_init 1 = .ok (.invokespecial 5, 3) := by decide +kernel
theorem dX12_init_4 : decode cX12_init 4 = .ok (.aload_n 0, 1) := by decide +kernel
theorem dX12_init_5 : decode cX12_init 5 = .ok (.new 11, 3) := by decide +kernel
theorem dX12_init_8 : decode cX12_init 8 = .ok (.dup, 1) := by decide +kernel
theorem dX12_init_9 : decode cX12_init 9 = .ok (.sipush 1600, 3) := by decide +kernel
theorem dX12_init_12 : decode cX12_init 12 = .ok (.invokespecial 13, 3) := by decide +kernel
theorem dX12_init_15 : decode cX12_init 15 = .ok (.putfield 16, 3) := by decide +kernel
theorem dX12_init_18 : decode cX12_init 18 = .ok (.aload_n 0, 1) := by decide +kernel
theorem dX12_init_19 : decode cX12_init 19 = .ok (.new 11, 3) := by decide +kernel
theorem dX12_init_22 : decode cX12_init 22 = .ok (.dup, 1) := by decide +kernel
theorem dX12_init_23 : decode cX12_init 23 = .ok (.sipush 1080, 3) := by decide +kernel
theorem dX12_init_26 : decode cX12_init 26 = .ok (.invokespecial 13, 3) := by decide +kernel
theorem dX12_init_29 : decode cX12_init 29 = .ok (.putfield 20, 3) := by decide +kernel
theorem dX12_init_32 : decode cX12_init 32 = .ok (.aload_n 0, 1) := by decide +kernel
theorem dX12_init_33 : decode cX12_init 33 = .ok (.new 23, 3) := by decide +kernel
theorem dX12_init_36 : decode cX12_init 36 = .ok (.dup, 1) := by decide +kernel
theorem dX12_init_37 : decode cX12_init 37 = .ok (.invokespecial 25, 3) := by decide +kernel
theorem dX12_init_40 : decode cX12_init 40 = .ok (.putfield 26, 3) := by decide +kernel
theorem dX12_init_43 : decode cX12_init 43 = .ok (.aload_n 0, 1) := by decide +kernel
theorem dX12_init_44 : decode cX12_init 44 = .ok (.new 30, 3) := by decide +kernel
theorem dX12_init_47 : decode cX12_init 47 = .ok (.dup, 1) := by decide +kernel
theorem dX12_init_48 : decode cX12_init 48 = .ok (.invokespecial 32, 3) := by decide +kernel
theorem dX12_init_51 : decode cX12_init 51 = .ok (.putfield 33, 3) := by decide +kernel
theorem dX12_init_54 : decode cX12_init 54 = .ok (.aload_n 0, 1) := by decide +kernel
theorem dX12_init_55 : decode cX12_init 55 = .ok (.new 37, 3) := by decide +kernel
theorem dX12_init_58 : decode cX12_init 58 = .ok (.dup, 1) := by decide +kernel
theorem dX12_init_59 : decode cX12_init 59 = .ok (.invokespecial 39, 3) := by decide +kernel
theorem dX12_init_62 : decode cX12_init 62 = .ok (.putfield 40, 3) := by decide +kernel
theorem dX12_init_65 : decode cX12_init 65 = .ok (.aload_n 0, 1) := by decide +kernel
theorem dX12_init_66 : decode cX12_init 66 = .ok (.new 44, 3) := by decide +kernel
theorem dX12_init_69 : decode cX12_init 69 = .ok (.dup, 1) := by decide +kernel
theorem dX12_init_70 : decode cX12_init 70 = .ok (.invokespecial 46, 3) := by decide +kernel
theorem dX12_init_73 : decode cX12_init 73 = .ok (.putfield 47, 3) := by decide +kernel
theorem dX12_init_76 : decode cX12_init 76 = .ok (.aload_n 0, 1) := by decide +kernel
theorem dX12_init_77 : decode cX12_init 77 = .ok (.new 44, 3) := by decide +kernel
theorem dX12_init_80 : decode cX12_init 80 = .ok (.dup, 1) := by decide +kernel
theorem dX12_init_81 : decode cX12_init 81 = .ok (.invokespecial 46, 3) := by decide +kernel
theorem dX12_init_84 : decode cX12_init 84 = .ok (.putfield 51, 3) := by decide +kernel
theorem dX12_init_87 : decode cX12_init 87 = .ok (.aload_n 0, 1) := by decide +kernel
theorem dX12_init_88 : decode cX12_init 88 = .ok (.new 54, 3) := by decide +kernel
theorem dX12_init_91 : decode cX12_init 91 = .ok (.dup, 1) := by decide +kernel
theorem dX12_init_92 : decode cX12_init 92 = .ok (.invokespecial 56, 3) := by decide +kernel
theorem dX12_init_95 : decode cX12_init 95 = .ok (.putfield 57, 3) := by decide +kernel
theorem dX12_init_98 : decode cX12_init 98 = .ok (.aload_n 0, 1) := by decide +kernel
theorem dX12_init_99 : decode cX12_init 99 = .ok (.new 37, 3) := by decide +kernel
theorem dX12_init_102 : decode cX12_init 102 = .ok (.dup, 1) := by decide +kernel
theorem dX12_init_103 : decode cX12_init 103 = .ok (.invokespecial 39, 3) := by decide +kernel
theorem dX12_init_106 : decode cX12_init 106 = .ok (.putfield 61, 3) := by decide +kernel
theorem dX12_init_109 : decode cX12_init 109 = .ok (.aload_n 0, 1) := by decide +kernel
theorem dX12_init_110 : decode cX12_init 110 = .ok (.new 44, 3) := by decide +kernel
theorem dX12_init_113 : decode cX12_init 113 = .ok (.dup, 1) := by decide +kernel
theorem dX12_init_114 : decode cX12_init 114 = .ok (.invokespecial 46, 3) := by decide +kernel
theorem dX12_init_117 : decode cX12_init 117 = .ok (.putfield 64, 3) := by decide +kernel
theorem dX12_init_120 : decode cX12_init 120 = .ok (.aload_n 0, 1) := by decide +kernel
theorem dX12_init_121 : decode cX12_init 121 = .ok (.new 67, 3) := by decide +kernel
theorem dX12_init_124 : decode cX12_init 124 = .ok (.dup, 1) := by decide +kernel
theorem dX12_init_125 : decode cX12_init 125 = .ok (.invokespecial 69, 3) := by decide +kernel
theorem dX12_init_128 : decode cX12_init 128 = .ok (.putfield 70, 3) := by decide +kernel
theorem dX12_init_131 : decode cX12_init 131 = .ok (.aload_n 0, 1) := by decide +kernel
theorem dX12_init_132 : decode cX12_init 132 = .ok (.new 74, 3) := by decide +kernel
theorem dX12_init_135 : decode cX12_init 135 = .ok (.dup, 1) := by decide +kernel
theorem dX12_init_136 : decode cX12_init 136 = .ok (.invokespecial 76, 3) := by decide +kernel
theorem dX12_init_139 : decode cX12_init 139 = .ok (.putfield 77, 3) := by decide +kernel
theorem dX12_init_142 : decode cX12_init 142 = .ok (.aload_n 0, 1) := by decide +kernel
theorem dX12_init_143 : decode cX12_init 143 = .ok (.new 81, 3) := by decide +kernel
theorem dX12_init_146 : decode cX12_init 146 = .ok (.dup, 1) := by decide +kernel
theorem dX12_init_147 : decode cX12_init 147 = .ok (.invokespecial 83, 3) := by decide +kernel
theorem dX12_init_150 : decode cX12_init 150 = .ok (.putfield 84, 3) := by decide +kernel
theorem dX12_init_153 : decode cX12_init 153 = .ok (.aload_n 0, 1) := by decide +kernel
theorem dX12_init_154 : decode cX12_init 154 = .ok (.new 88, 3) := by decide +kernel
theorem dX12_init_157 : decode cX12_init 157 = .ok (.dup, 1) := by decide +kernel
theorem dX12_init_158 : decode cX12_init 158 = .ok (.aload_n 0, 1) := by decide +kernel
theorem dX12_init_159 : decode cX12_init 159 = .ok (.getfield 26, 3) := by decide +kernel
theorem dX12_init_162 : decode cX12_init 162 = .ok (.invokespecial 90, 3) := by decide +kernel
theorem dX12_init_165 : decode cX12_init 165 = .ok (.putfield 93, 3) := by decide +kernel
theorem dX12_init_168 : decode cX12_init 168 = .ok (.aload_n 0, 1) := by decide +kernel
theorem dX12_init_169 : decode cX12_init 169 = .ok (.bipush 12, 2) := by decide +kernel
theorem dX12_init_171 : decode cX12_init 171 = .ok (.anewarray 88, 3) := by decide +kernel
theorem dX12_init_174 : decode cX12_init 174 = .ok (.putfield 97, 3) := by decide +kernel
theorem dX12_init_177 : decode cX12_init 177 = .ok (.iconst 0, 1) := by decide +kernel
theorem dX12_init_178 : decode cX12_init 178 = .ok (.istore_n 1, 1) := by decide +kernel
theorem dX12_init_179 : decode cX12_init 179 = .ok (.iload_n 1, 1) := by decide +kernel
theorem dX12_init_180 : decode cX12_init 180 = .ok (.bipush 12, 2) := by decide +kernel
theorem dX12_init_182 : decode cX12_init 182 = .ok (.if_icmp .ge 19, 3) := by decide +kernel
theorem dX12_init_185 : decode cX12_init 185 = .ok (.aload_n 0, 1) := by decide +kernel
theorem dX12_init_186 : decode cX12_init 186 = .ok (.getfield 97, 3) := by decide +kernel
theorem dX12_init_189 : decode cX12_init 189 = .ok (.iload_n 1, 1) := by decide +kernel
theorem dX12_init_190 : decode cX12_init 190 = .ok (.aload_n 0, 1) := by decide +kernel
theorem dX12_init_191 : decode cX12_init 191 = .ok (.getfield 93, 3) := by decide +kernel
theorem dX12_init_194 : decode cX12_init 194 = .ok (.aastore, 1) := by decide +kernel
theorem dX12_init_195 : decode cX12_init 195 = .ok (.iinc 1 1, 3) := by decide +kernel
theorem dX12_init_198 : decode cX12_init 198 = .ok (.goto (-19), 3) := by decide +kernel
theorem dX12_init_201 : decode cX12_init 201 = .ok (.aload_n 0, 1) := by decide +kernel
theorem dX12_init_202 : decode cX12_init 202 = .ok (.bipush 60, 2) := by decide +kernel
theorem dX12_init_204 : decode cX12_init 204 = .ok (.newarray .int, 2) := by decide +kernel
theorem dX12_init_206 : decode cX12_init 206 = .ok (.putfield 101, 3) := by decide +kernel
theorem dX12_init_209 : decode cX12_init 209 = .ok (.aload_n 0, 1) := by decide +kernel
theorem dX12_init_210 : decode cX12_init 210 = .ok (.aconst_null, 1) := by decide +kernel
theorem dX12_init_211 : decode cX12_init 211 = .ok (.putfield 105, 3) := by decide +kernel
theorem dX12_init_214 : decode cX12_init 214 = .ok (.aload_n 0, 1) := by decide +kernel
theorem dX12_init_215 : decode cX12_init 215 = .ok (.aload_n 0, 1) := by decide +kernel
theorem dX12_init_216 : decode cX12_init 216 = .ok (.getfield 93, 3) := by decide +kernel
theorem dX12_init_219 : decode cX12_init 219 = .ok (.putfield 109, 3) := by decide +kernel
theorem dX12_init_222 : decode cX12_init 222 = .ok (.aload_n 0, 1) := by decide +kernel
theorem dX12_init_223 : decode cX12_init 223 = .ok (.iconst 0, 1) := by decide +kernel
theorem dX12_init_224 : decode cX12_init 224 = .ok (.putfield 112, 3) := by decide +kernel
theorem dX12_init_227 : decode cX12_init 227 = .ok (.aload_n 0, 1) := by decide +kernel
theorem dX12_init_228 : decode cX12_init 228 = .ok (.iconst 0, 1) := by decide +kernel
theorem dX12_init_229 : decode cX12_init 229 = .ok (.putfield 116, 3) := by decide +kernel
theorem dX12_init_232 : decode cX12_init 232 = .ok (.return_, 1) := by decide +kernel
theorem dX12_feed_0 : decode cX12_feed 0 = .ok (.aload_n 0, 1) := by decide +kernel
theorem dX12_feed_1 : decode cX12_feed 1 = .ok (.getfield 16, 3) := by decide +kernel
theorem dX12_feed_4 : decode cX12_feed 4 = .ok (.bipush 20, 2) := by decide +kernel
theorem dX12_feed_6 : decode cX12_feed 6 = .ok (.invokevirtual 120, 3) := by decide +kernel
theorem dX12_feed_9 : decode cX12_feed 9 = .ok (.ifCond .ne 5, 3) := by decide +kernel
theorem dX12_feed_12 : decode cX12_feed 12 = .ok (.iconst (-1), 1) := by decide +kernel
theorem dX12_feed_13 : decode cX12_feed 13 = .ok (.ireturn, 1) := by decide +kernel
theorem dX12_feed_14 : decode cX12_feed 14 = .ok (.aload_n 0, 1) := by decide +kernel
theorem dX12_feed_15 : decode cX12_feed 15 = .ok (.getfield 16, 3) := by decide +kernel
theorem dX12_feed_18 : decode cX12_feed 18 = .ok (.iload_n 1, 1) := by decide +kernel
theorem dX12_feed_19 : decode cX12_feed 19 = .ok (.invokevirtual 124, 3) := by decide +kernel
theorem dX12_feed_22 : decode cX12_feed 22 = .ok (.aload_n 0, 1) := by decide +kernel
theorem dX12_feed_23 : decode cX12_feed 23 = .ok (.getfield 16, 3) := by decide +kernel
theorem dX12_feed_26 : decode cX12_feed 26 = .ok (.iload_n 2, 1) := by decide +kernel
theorem dX12_feed_27 : decode cX12_feed 27 = .ok (.invokevirtual 124, 3) := by decide +kernel
theorem dX12_feed_30 : decode cX12_feed 30 = .ok (.aload_n 0, 1) := by decide +kernel
theorem dX12_feed_31 : decode cX12_feed 31 = .ok (.getfield 16, 3) := by decide +kernel
theorem dX12_feed_34 : decode cX12_feed 34 = .ok (.iload_n 3, 1) := by decide +kernel
theorem dX12_feed_35 : decode cX12_feed 35 = .ok (.invokevirtual 124, 3) := by decide +kernel
theorem dX12_feed_38 : decode cX12_feed 38 = .ok (.aload_n 0, 1) := by decide +kernel
theorem dX12_feed_39 : decode cX12_feed 39 = .ok (.getfield 16, 3) := by decide +kernel
theorem dX12_feed_42 : decode cX12_feed 42 = .ok (.iload 4, 2) := by decide +kernel
theorem dX12_feed_44 : decode cX12_feed 44 = .ok (.invokevirtual 124, 3) := by decide +kernel
theorem dX12_feed_47 : decode cX12_feed 47 = .ok (.aload_n 0, 1) := by decide +kernel
theorem dX12_feed_48 : decode cX12_feed 48 = .ok (.getfield 16, 3) := by decide +kernel
theorem dX12_feed_51 : decode cX12_feed 51 = .ok (.iload 5, 2) := by decide +kernel
theorem dX12_feed_53 : decode cX12_feed 53 = .ok (.invokevirtual 124, 3) := by decide +kernel
theorem dX12_feed_56 : decode cX12_feed 56 = .ok (.aload_n 0, 1) := by decide +kernel
theorem dX12_feed_57 : decode cX12_feed 57 = .ok (.getfield 16, 3) := by decide +kernel
theorem dX12_feed_60 : decode cX12_feed 60 = .ok (.getfield 127, 3) := by decide +kernel
theorem dX12_feed_63 : decode cX12_feed 63 = .ok (.ireturn, 1) := by decide +kernel
theorem dX12_end_0 : decode cX12_end 0 = .ok (.iload_n 1, 1) := by decide +kernel
theorem dX12_end_1 : decode cX12_end 1 = .ok (.ifCond .lt 14, 3) := by decide +kernel
theorem dX12_end_4 : decode cX12_end 4 = .ok (.iload_n 1, 1) := by decide +kernel
theorem dX12_end_5 : decode cX12_end 5 = .ok (.aload_n 0, 1) := by decide +kernel
theorem dX12_end_6 : decode cX12_end 6 = .ok (.getfield 16, 3) := by decide +kernel
theorem dX12_end_9 : decode cX12_end 9 = .ok (.getfield 127, 3) := by decide +kernel
theorem dX12_end_12 : decode cX12_end 12 = .ok (.if_icmp .le 5, 3) := by decide +kernel
theorem dX12_end_15 : decode cX12_end 15 = .ok (.iconst (-1), 1) := by decide +kernel
theorem dX12_end_16 : decode cX12_end 16 = .ok (.ireturn, 1) := by decide +kernel
theorem dX12_end_17 : decode cX12_end 17 = .ok (.aload_n 0, 1) := by decide +kernel
theorem dX12_end_18 : decode cX12_end 18 = .ok (.getfield 16, 3) := by decide +kernel
theorem dX12_end_21 : decode cX12_end 21 = .ok (.iload_n 1, 1) := by decide +kernel
theorem dX12_end_22 : decode cX12_end 22 = .ok (.putfield 127, 3) := by decide +kernel
theorem dX12_end_25 : decode cX12_end 25 = .ok (.iload_n 1, 1) := by decide +kernel
theorem dX12_end_26 : decode cX12_end 26 = .ok (.ireturn, 1) := by decide +kernel
theorem dX12_pool_0 : decode cX12_pool 0 = .ok (.aload_n 0, 1) := by decide +kernel
theorem dX12_pool_1 : decode cX12_pool 1 = .ok (.getfield 26, 3) := by decide +kernel
theorem dX12_pool_4 : decode cX12_pool 4 = .ok (.aload_n 0, 1) := by decide +kernel
theorem dX12_pool_5 : decode cX12_pool 5 = .ok (.getfield 16, 3) := by decide +kernel
theorem dX12_pool_8 : decode cX12_pool 8 = .ok (.iconst 0, 1) := by decide +kernel
theorem dX12_pool_9 : decode cX12_pool 9 = .ok (.invokevirtual 130, 3) := by decide +kernel
theorem dX12_pool_12 : decode cX12_pool 12 = .ok (.aload_n 0, 1) := by decide +kernel
theorem dX12_pool_13 : decode cX12_pool 13 = .ok (.getfield 16, 3) := by decide +kernel
theorem dX12_pool_16 : decode cX12_pool 16 = .ok (.iconst 0, 1) := by decide +kernel
theorem dX12_pool_17 : decode cX12_pool 17 = .ok (.putfield 127, 3) := by decide +kernel
theorem dX12_pool_20 : decode cX12_pool 20 = .ok (.aload_n 0, 1) := by decide +kernel
theorem dX12_pool_21 : decode cX12_pool 21 = .ok (.getfield 26, 3) := by decide +kernel
theorem dX12_pool_24 : decode cX12_pool 24 = .ok (.getfield 134, 3) := by decide +kernel
theorem dX12_pool_27 : decode cX12_pool 27 = .ok (.ifCond .eq 6, 3) := by decide +kernel
theorem dX12_pool_30 : decode cX12_pool 30 = .ok (.bipush (-4), 2) := by decide +kernel
theorem dX12_pool_32 : decode cX12_pool 32 = .ok (.ireturn, 1) := by decide +kernel
theorem dX12_pool_33 : decode cX12_pool 33 = .ok (.aload_n 0, 1) := by decide +kernel
theorem dX12_pool_34 : decode cX12_pool 34 = .ok (.getfield 33, 3) := by decide +kernel
theorem dX12_pool_37 : decode cX12_pool 37 = .ok (.aload_n 0, 1) := by decide +kernel
theorem dX12_pool_38 : decode cX12_pool 38 = .ok (.getfield 26, 3) := by decide +kernel
theorem dX12_pool_41 : decode cX12_pool 41 = .ok (.invokevirtual 137, 3) := by decide +kernel
theorem dX12_pool_44 : decode cX12_pool 44 = .ok (.aload_n 0, 1) := by decide +kernel
theorem dX12_pool_45 : decode cX12_pool 45 = .ok (.getfield 77, 3) := by decide +kernel
theorem dX12_pool_48 : decode cX12_pool 48 = .ok (.iconst 0, 1) := by decide +kernel
theorem dX12_pool_49 : decode cX12_pool 49 = .ok (.putfield 140, 3) := by decide +kernel
theorem dX12_pool_52 : decode cX12_pool 52 = .ok (.aload_n 0, 1) := by decide +kernel
theorem dX12_pool_53 : decode cX12_pool 53 = .ok (.getfield 84, 3) := by decide +kernel
theorem dX12_pool_56 : decode cX12_pool 56 = .ok (.iconst 0, 1) := by decide +kernel
theorem dX12_pool_57 : decode cX12_pool 57 = .ok (.putfield 141, 3) := by decide +kernel
theorem dX12_pool_60 : decode cX12_pool 60 = .ok (.aload_n 0, 1) := by decide +kernel
theorem dX12_pool_61 : decode cX12_pool 61 = .ok (.aload_n 0, 1) := by decide +kernel
theorem dX12_pool_62 : decode cX12_pool 62 = .ok (.getfield 93, 3) := by decide +kernel
theorem dX12_pool_65 : decode cX12_pool 65 = .ok (.putfield 109, 3) := by decide +kernel
theorem dX12_pool_68 : decode cX12_pool 68 = .ok (.aload_n 0, 1) := by decide +kernel
theorem dX12_pool_69 : decode cX12_pool 69 = .ok (.iconst 0, 1) := by decide +kernel
theorem dX12_pool_70 : decode cX12_pool 70 = .ok (.putfield 112, 3) := by decide +kernel
theorem dX12_pool_73 : decode cX12_pool 73 = .ok (.aload_n 0, 1) := by decide +kernel
theorem dX12_pool_74 : decode cX12_pool 74 = .ok (.iconst 0, 1) := by decide +kernel
theorem dX12_pool_75 : decode cX12_pool 75 = .ok (.putfield 116, 3) := by decide +kernel
theorem dX12_pool_78 : decode cX12_pool 78 = .ok (.aload_n 0, 1) := by decide +kernel
theorem dX12_pool_79 : decode cX12_pool 79 = .ok (.getfield 26, 3) := by decide +kernel
theorem dX12_pool_82 : decode cX12_pool 82 = .ok (.getfield 142, 3) := by decide +kernel
theorem dX12_pool_85 : decode cX12_pool 85 = .ok (.ireturn, 1) := by decide +kernel
theorem dX12_sample_0 : decode cX12_sample 0 = .ok (.aload_n 0, 1) := by decide +kernel
theorem dX12_sample_1 : decode cX12_sample 1 = .ok (.getfield 26, 3) := by decide +kernel
theorem dX12_sample_4 : decode cX12_sample 4 = .ok (.aload_n 0, 1) := by decide +kernel
theorem dX12_sample_5 : decode cX12_sample 5 = .ok (.getfield 16, 3) := by decide +kernel
theorem dX12_sample_8 : decode cX12_sample 8 = .ok (.iconst 1, 1) := by decide +kernel
theorem dX12_sample_9 : decode cX12_sample 9 = .ok (.invokevirtual 130, 3) := by decide +kernel
theorem dX12_sample_12 : decode cX12_sample 12 = .ok (.aload_n 0, 1) := by decide +kernel
theorem dX12_sample_13 : decode cX12_sample 13 = .ok (.getfield 16, 3) := by decide +kernel
theorem dX12_sample_16 : decode cX12_sample 16 = .ok (.iconst 0, 1) := by decide +kernel
theorem dX12_sample_17 : decode cX12_sample 17 = .ok (.putfield 127, 3) := by decide +kernel
theorem dX12_sample_20 : decode cX12_sample 20 = .ok (.aload_n 0, 1) := by decide +kernel
theorem dX12_sample_21 : decode cX12_sample 21 = .ok (.getfield 26, 3) := by decide +kernel
theorem dX12_sample_24 : decode cX12_sample 24 = .ok (.getfield 134, 3) := by decide +kernel
theorem dX12_sample_27 : decode cX12_sample 27 = .ok (.ifCond .eq 6, 3) := by decide +kernel
theorem dX12_sample_30 : decode cX12_sample 30 = .ok (.bipush (-4), 2) := by decide +kernel
theorem dX12_sample_32 : decode cX12_sample 32 = .ok (.ireturn, 1) := by decide +kernel
theorem dX12_sample_33 : decode cX12_sample 33 = .ok (.aload_n 0, 1) := by decide +kernel
theorem dX12_sample_34 : decode cX12_sample 34 = .ok (.new 88, 3) := by decide +kernel
theorem dX12_sample_37 : decode cX12_sample 37 = .ok (.dup, 1) := by decide +kernel
theorem dX12_sample_38 : decode cX12_sample 38 = .ok (.aload_n 0, 1) := by decide +kernel
theorem dX12_sample_39 : decode cX12_sample 39 = .ok (.getfield 26, 3) := by decide +kernel
theorem dX12_sample_42 : decode cX12_sample 42 = .ok (.invokespecial 90, 3) := by decide +kernel
theorem dX12_sample_45 : decode cX12_sample 45 = .ok (.putfield 109, 3) := by decide +kernel
theorem dX12_sample_48 : decode cX12_sample 48 = .ok (.aload_n 0, 1) := by decide +kernel
theorem dX12_sample_49 : decode cX12_sample 49 = .ok (.getfield 109, 3) := by decide +kernel
theorem dX12_sample_52 : decode cX12_sample 52 = .ok (.getfield 145, 3) := by decide +kernel
theorem dX12_sample_55 : decode cX12_sample 55 = .ok (.ireturn, 1) := by decide +kernel
theorem dX12_fault_0 : decode cX12_fault 0 = .ok (.iload_n 1, 1) := by decide +kernel
theorem dX12_fault_1 : decode cX12_fault 1 = .ok (.ifCond .ne 11, 3) := by decide +kernel
theorem dX12_fault_4 : decode cX12_fault 4 = .ok (.aload_n 0, 1) := by decide +kernel
theorem dX12_fault_5 : decode cX12_fault 5 = .ok (.getfield 26, 3) := by decide +kernel
theorem dX12_fault_8 : decode cX12_fault 8 = .ok (.getfield 134, 3) := by decide +kernel
theorem dX12_fault_11 : decode cX12_fault 11 = .ok (.ireturn, 1) := by decide +kernel
theorem dX12_fault_12 : decode cX12_fault 12 = .ok (.iload_n 1, 1) := by decide +kernel
theorem dX12_fault_13 : decode cX12_fault 13 = .ok (.iconst 1, 1) := by decide +kernel
theorem dX12_fault_14 : decode cX12_fault 14 = .ok (.if_icmp .ne 13, 3) := by decide +kernel
theorem dX12_fault_17 : decode cX12_fault 17 = .ok (.aload_n 0, 1) := by decide +kernel
theorem dX12_fault_18 : decode cX12_fault 18 = .ok (.getfield 26, 3) := by decide +kernel
theorem dX12_fault_21 : decode cX12_fault 21 = .ok (.getfield 148, 3) := by decide +kernel
theorem dX12_fault_24 : decode cX12_fault 24 = .ok (.goto 4, 3) := by decide +kernel
theorem dX12_fault_27 : decode cX12_fault 27 = .ok (.iconst (-1), 1) := by decide +kernel
theorem dX12_fault_28 : decode cX12_fault 28 = .ok (.ireturn, 1) := by decide +kernel
theorem dX12_count_0 : decode cX12_count 0 = .ok (.aload_n 0, 1) := by decide +kernel
theorem dX12_count_1 : decode cX12_count 1 = .ok (.invokevirtual 151, 3) := by decide +kernel
theorem dX12_count_4 : decode cX12_count 4 = .ok (.iload_n 1, 1) := by decide +kernel
theorem dX12_count_5 : decode cX12_count 5 = .ok (.tableswitch 228 0 17 #[87, 95, 103, 111, 119, 127, 135, 143, 151, 159, 167, 175, 183, 191, 199, 207, 212, 220], 87) := by decide +kernel
theorem dX12_count_92 : decode cX12_count 92 = .ok (.aload_n 0, 1) := by decide +kernel
theorem dX12_count_93 : decode cX12_count 93 = .ok (.getfield 40, 3) := by decide +kernel
theorem dX12_count_96 : decode cX12_count 96 = .ok (.getfield 154, 3) := by decide +kernel
theorem dX12_count_99 : decode cX12_count 99 = .ok (.ireturn, 1) := by decide +kernel
theorem dX12_count_100 : decode cX12_count 100 = .ok (.aload_n 0, 1) := by decide +kernel
theorem dX12_count_101 : decode cX12_count 101 = .ok (.getfield 40, 3) := by decide +kernel
theorem dX12_count_104 : decode cX12_count 104 = .ok (.invokevirtual 155, 3) := by decide +kernel
theorem dX12_count_107 : decode cX12_count 107 = .ok (.ireturn, 1) := by decide +kernel
theorem dX12_count_108 : decode cX12_count 108 = .ok (.aload_n 0, 1) := by decide +kernel
theorem dX12_count_109 : decode cX12_count 109 = .ok (.getfield 40, 3) := by decide +kernel
theorem dX12_count_112 : decode cX12_count 112 = .ok (.invokevirtual 159, 3) := by decide +kernel
theorem dX12_count_115 : decode cX12_count 115 = .ok (.ireturn, 1) := by decide +kernel
theorem dX12_count_116 : decode cX12_count 116 = .ok (.aload_n 0, 1) := by decide +kernel
theorem dX12_count_117 : decode cX12_count 117 = .ok (.getfield 51, 3) := by decide +kernel
theorem dX12_count_120 : decode cX12_count 120 = .ok (.getfield 162, 3) := by decide +kernel
theorem dX12_count_123 : decode cX12_count 123 = .ok (.ireturn, 1) := by decide +kernel
theorem dX12_count_124 : decode cX12_count 124 = .ok (.aload_n 0, 1) := by decide +kernel
theorem dX12_count_125 : decode cX12_count 125 = .ok (.getfield 33, 3) := by decide +kernel
theorem dX12_count_128 : decode cX12_count 128 = .ok (.getfield 163, 3) := by decide +kernel
theorem dX12_count_131 : decode cX12_count 131 = .ok (.ireturn, 1) := by decide +kernel
theorem dX12_count_132 : decode cX12_count 132 = .ok (.aload_n 0, 1) := by decide +kernel
theorem dX12_count_133 : decode cX12_count 133 = .ok (.getfield 33, 3) := by decide +kernel
theorem dX12_count_136 : decode cX12_count 136 = .ok (.getfield 166, 3) := by decide +kernel
theorem dX12_count_139 : decode cX12_count 139 = .ok (.ireturn, 1) := by decide +kernel
theorem dX12_count_140 : decode cX12_count 140 = .ok (.aload_n 0, 1) := by decide +kernel
theorem dX12_count_141 : decode cX12_count 141 = .ok (.getfield 33, 3) := by decide +kernel
theorem dX12_count_144 : decode cX12_count 144 = .ok (.getfield 169, 3) := by decide +kernel
theorem dX12_count_147 : decode cX12_count 147 = .ok (.ireturn, 1) := by decide +kernel
theorem dX12_count_148 : decode cX12_count 148 = .ok (.aload_n 0, 1) := by decide +kernel
theorem dX12_count_149 : decode cX12_count 149 = .ok (.getfield 33, 3) := by decide +kernel
theorem dX12_count_152 : decode cX12_count 152 = .ok (.getfield 172, 3) := by decide +kernel
theorem dX12_count_155 : decode cX12_count 155 = .ok (.ireturn, 1) := by decide +kernel
theorem dX12_count_156 : decode cX12_count 156 = .ok (.aload_n 0, 1) := by decide +kernel
theorem dX12_count_157 : decode cX12_count 157 = .ok (.getfield 33, 3) := by decide +kernel
theorem dX12_count_160 : decode cX12_count 160 = .ok (.getfield 175, 3) := by decide +kernel
theorem dX12_count_163 : decode cX12_count 163 = .ok (.ireturn, 1) := by decide +kernel
theorem dX12_count_164 : decode cX12_count 164 = .ok (.aload_n 0, 1) := by decide +kernel
theorem dX12_count_165 : decode cX12_count 165 = .ok (.getfield 77, 3) := by decide +kernel
theorem dX12_count_168 : decode cX12_count 168 = .ok (.getfield 140, 3) := by decide +kernel
theorem dX12_count_171 : decode cX12_count 171 = .ok (.ireturn, 1) := by decide +kernel
theorem dX12_count_172 : decode cX12_count 172 = .ok (.aload_n 0, 1) := by decide +kernel
theorem dX12_count_173 : decode cX12_count 173 = .ok (.getfield 109, 3) := by decide +kernel
theorem dX12_count_176 : decode cX12_count 176 = .ok (.getfield 145, 3) := by decide +kernel
theorem dX12_count_179 : decode cX12_count 179 = .ok (.ireturn, 1) := by decide +kernel
theorem dX12_count_180 : decode cX12_count 180 = .ok (.aload_n 0, 1) := by decide +kernel
theorem dX12_count_181 : decode cX12_count 181 = .ok (.getfield 84, 3) := by decide +kernel
theorem dX12_count_184 : decode cX12_count 184 = .ok (.getfield 141, 3) := by decide +kernel
theorem dX12_count_187 : decode cX12_count 187 = .ok (.ireturn, 1) := by decide +kernel
theorem dX12_count_188 : decode cX12_count 188 = .ok (.aload_n 0, 1) := by decide +kernel
theorem dX12_count_189 : decode cX12_count 189 = .ok (.getfield 16, 3) := by decide +kernel
theorem dX12_count_192 : decode cX12_count 192 = .ok (.getfield 127, 3) := by decide +kernel
theorem dX12_count_195 : decode cX12_count 195 = .ok (.ireturn, 1) := by decide +kernel
theorem dX12_count_196 : decode cX12_count 196 = .ok (.aload_n 0, 1) := by decide +kernel
theorem dX12_count_197 : decode cX12_count 197 = .ok (.getfield 47, 3) := by decide +kernel
theorem dX12_count_200 : decode cX12_count 200 = .ok (.getfield 162, 3) := by decide +kernel
theorem dX12_count_203 : decode cX12_count 203 = .ok (.ireturn, 1) := by decide +kernel
theorem dX12_count_204 : decode cX12_count 204 = .ok (.aload_n 0, 1) := by decide +kernel
theorem dX12_count_205 : decode cX12_count 205 = .ok (.getfield 33, 3) := by decide +kernel
theorem dX12_count_208 : decode cX12_count 208 = .ok (.invokevirtual 178, 3) := by decide +kernel
theorem dX12_count_211 : decode cX12_count 211 = .ok (.ireturn, 1) := by decide +kernel
theorem dX12_count_212 : decode cX12_count 212 = .ok (.aload_n 0, 1) := by decide +kernel
theorem dX12_count_213 : decode cX12_count 213 = .ok (.getfield 112, 3) := by decide +kernel
theorem dX12_count_216 : decode cX12_count 216 = .ok (.ireturn, 1) := by decide +kernel
theorem dX12_count_217 : decode cX12_count 217 = .ok (.aload_n 0, 1) := by decide +kernel
theorem dX12_count_218 : decode cX12_count 218 = .ok (.getfield 20, 3) := by decide +kernel
theorem dX12_count_221 : decode cX12_count 221 = .ok (.getfield 127, 3) := by decide +kernel
theorem dX12_count_224 : decode cX12_count 224 = .ok (.ireturn, 1) := by decide +kernel
theorem dX12_count_225 : decode cX12_count 225 = .ok (.aload_n 0, 1) := by decide +kernel
theorem dX12_count_226 : decode cX12_count 226 = .ok (.getfield 40, 3) := by decide +kernel
theorem dX12_count_229 : decode cX12_count 229 = .ok (.invokevirtual 181, 3) := by decide +kernel
theorem dX12_count_232 : decode cX12_count 232 = .ok (.ireturn, 1) := by decide +kernel
theorem dX12_count_233 : decode cX12_count 233 = .ok (.iconst (-1), 1) := by decide +kernel
theorem dX12_count_234 : decode cX12_count 234 = .ok (.ireturn, 1) := by decide +kernel
theorem dX12_row_0 : decode cX12_row 0 = .ok (.aload_n 0, 1) := by decide +kernel
theorem dX12_row_1 : decode cX12_row 1 = .ok (.invokevirtual 151, 3) := by decide +kernel
theorem dX12_row_4 : decode cX12_row 4 = .ok (.iload_n 1, 1) := by decide +kernel
theorem dX12_row_5 : decode cX12_row 5 = .ok (.ifCond .lt 14, 3) := by decide +kernel
theorem dX12_row_8 : decode cX12_row 8 = .ok (.iload_n 1, 1) := by decide +kernel
theorem dX12_row_9 : decode cX12_row 9 = .ok (.aload_n 0, 1) := by decide +kernel
theorem dX12_row_10 : decode cX12_row 10 = .ok (.getfield 40, 3) := by decide +kernel
theorem dX12_row_13 : decode cX12_row 13 = .ok (.getfield 154, 3) := by decide +kernel
theorem dX12_row_16 : decode cX12_row 16 = .ok (.if_icmp .lt 6, 3) := by decide +kernel
theorem dX12_row_19 : decode cX12_row 19 = .ok (.bipush (-2), 2) := by decide +kernel
theorem dX12_row_21 : decode cX12_row 21 = .ok (.ireturn, 1) := by decide +kernel
theorem dX12_row_22 : decode cX12_row 22 = .ok (.iload_n 2, 1) := by decide +kernel
theorem dX12_row_23 : decode cX12_row 23 = .ok (.tableswitch 76 0 3 #[29, 39, 49, 59], 29) := by decide +kernel
theorem dX12_row_52 : decode cX12_row 52 = .ok (.aload_n 0, 1) := by decide +kernel
theorem dX12_row_53 : decode cX12_row 53 = .ok (.getfield 40, 3) := by decide +kernel
theorem dX12_row_56 : decode cX12_row 56 = .ok (.getfield 184, 3) := by decide +kernel
theorem dX12_row_59 : decode cX12_row 59 = .ok (.iload_n 1, 1) := by decide +kernel
theorem dX12_row_60 : decode cX12_row 60 = .ok (.iaload, 1) := by decide +kernel
theorem dX12_row_61 : decode cX12_row 61 = .ok (.ireturn, 1) := by decide +kernel
theorem dX12_row_62 : decode cX12_row 62 = .ok (.aload_n 0, 1) := by decide +kernel
theorem dX12_row_63 : decode cX12_row 63 = .ok (.getfield 40, 3) := by decide +kernel
theorem dX12_row_66 : decode cX12_row 66 = .ok (.getfield 187, 3) := by decide +kernel
theorem dX12_row_69 : decode cX12_row 69 = .ok (.iload_n 1, 1) := by decide +kernel
theorem dX12_row_70 : decode cX12_row 70 = .ok (.iaload, 1) := by decide +kernel
theorem dX12_row_71 : decode cX12_row 71 = .ok (.ireturn, 1) := by decide +kernel
theorem dX12_row_72 : decode cX12_row 72 = .ok (.aload_n 0, 1) := by decide +kernel
theorem dX12_row_73 : decode cX12_row 73 = .ok (.getfield 40, 3) := by decide +kernel
theorem dX12_row_76 : decode cX12_row 76 = .ok (.getfield 190, 3) := by decide +kernel
theorem dX12_row_79 : decode cX12_row 79 = .ok (.iload_n 1, 1) := by decide +kernel
theorem dX12_row_80 : decode cX12_row 80 = .ok (.iaload, 1) := by decide +kernel
theorem dX12_row_81 : decode cX12_row 81 = .ok (.ireturn, 1) := by decide +kernel
theorem dX12_row_82 : decode cX12_row 82 = .ok (.aload_n 0, 1) := by decide +kernel
theorem dX12_row_83 : decode cX12_row 83 = .ok (.getfield 51, 3) := by decide +kernel
theorem dX12_row_86 : decode cX12_row 86 = .ok (.aload_n 0, 1) := by decide +kernel
theorem dX12_row_87 : decode cX12_row 87 = .ok (.getfield 40, 3) := by decide +kernel
theorem dX12_row_90 : decode cX12_row 90 = .ok (.getfield 184, 3) := by decide +kernel
theorem dX12_row_93 : decode cX12_row 93 = .ok (.iload_n 1, 1) := by decide +kernel
theorem dX12_row_94 : decode cX12_row 94 = .ok (.iaload, 1) := by decide +kernel
theorem dX12_row_95 : decode cX12_row 95 = .ok (.invokevirtual 193, 3) := by decide +kernel
theorem dX12_row_98 : decode cX12_row 98 = .ok (.ireturn, 1) := by decide +kernel
theorem dX12_row_99 : decode cX12_row 99 = .ok (.bipush (-2), 2) := by decide +kernel
theorem dX12_row_101 : decode cX12_row 101 = .ok (.ireturn, 1) := by decide +kernel
theorem dX12_band_0 : decode cX12_band 0 = .ok (.aload_n 0, 1) := by decide +kernel
theorem dX12_band_1 : decode cX12_band 1 = .ok (.invokevirtual 151, 3) := by decide +kernel
theorem dX12_band_4 : decode cX12_band 4 = .ok (.aload_n 0, 1) := by decide +kernel
theorem dX12_band_5 : decode cX12_band 5 = .ok (.getfield 51, 3) := by decide +kernel
theorem dX12_band_8 : decode cX12_band 8 = .ok (.iload_n 1, 1) := by decide +kernel
theorem dX12_band_9 : decode cX12_band 9 = .ok (.invokevirtual 197, 3) := by decide +kernel
theorem dX12_band_12 : decode cX12_band 12 = .ok (.ifCond .ne 6, 3) := by decide +kernel
theorem dX12_band_15 : decode cX12_band 15 = .ok (.bipush (-2), 2) := by decide +kernel
theorem dX12_band_17 : decode cX12_band 17 = .ok (.ireturn, 1) := by decide +kernel
theorem dX12_band_18 : decode cX12_band 18 = .ok (.iload_n 2, 1) := by decide +kernel
theorem dX12_band_19 : decode cX12_band 19 = .ok (.tableswitch 155 0 7 #[45, 55, 65, 75, 85, 110, 135, 145], 45) := by decide +kernel
theorem dX12_band_64 : decode cX12_band 64 = .ok (.aload_n 0, 1) := by decide +kernel
theorem dX12_band_65 : decode cX12_band 65 = .ok (.getfield 51, 3) := by decide +kernel
theorem dX12_band_68 : decode cX12_band 68 = .ok (.getfield 200, 3) := by decide +kernel
theorem dX12_band_71 : decode cX12_band 71 = .ok (.iload_n 1, 1) := by decide +kernel
theorem dX12_band_72 : decode cX12_band 72 = .ok (.iaload, 1) := by decide +kernel
theorem dX12_band_73 : decode cX12_band 73 = .ok (.ireturn, 1) := by decide +kernel
theorem dX12_band_74 : decode cX12_band 74 = .ok (.aload_n 0, 1) := by decide +kernel
theorem dX12_band_75 : decode cX12_band 75 = .ok (.getfield 51, 3) := by decide +kernel
theorem dX12_band_78 : decode cX12_band 78 = .ok (.getfield 202, 3) := by decide +kernel
theorem dX12_band_81 : decode cX12_band 81 = .ok (.iload_n 1, 1) := by decide +kernel
theorem dX12_band_82 : decode cX12_band 82 = .ok (.iaload, 1) := by decide +kernel
theorem dX12_band_83 : decode cX12_band 83 = .ok (.ireturn, 1) := by decide +kernel
theorem dX12_band_84 : decode cX12_band 84 = .ok (.aload_n 0, 1) := by decide +kernel
theorem dX12_band_85 : decode cX12_band 85 = .ok (.getfield 51, 3) := by decide +kernel
theorem dX12_band_88 : decode cX12_band 88 = .ok (.getfield 204, 3) := by decide +kernel
theorem dX12_band_91 : decode cX12_band 91 = .ok (.iload_n 1, 1) := by decide +kernel
theorem dX12_band_92 : decode cX12_band 92 = .ok (.iaload, 1) := by decide +kernel
theorem dX12_band_93 : decode cX12_band 93 = .ok (.ireturn, 1) := by decide +kernel
theorem dX12_band_94 : decode cX12_band 94 = .ok (.aload_n 0, 1) := by decide +kernel
theorem dX12_band_95 : decode cX12_band 95 = .ok (.getfield 51, 3) := by decide +kernel
theorem dX12_band_98 : decode cX12_band 98 = .ok (.getfield 205, 3) := by decide +kernel
theorem dX12_band_101 : decode cX12_band 101 = .ok (.iload_n 1, 1) := by decide +kernel
theorem dX12_band_102 : decode cX12_band 102 = .ok (.iaload, 1) := by decide +kernel
theorem dX12_band_103 : decode cX12_band 103 = .ok (.ireturn, 1) := by decide +kernel
theorem dX12_band_104 : decode cX12_band 104 = .ok (.aload_n 0, 1) := by decide +kernel
theorem dX12_band_105 : decode cX12_band 105 = .ok (.getfield 51, 3) := by decide +kernel
theorem dX12_band_108 : decode cX12_band 108 = .ok (.getfield 205, 3) := by decide +kernel
theorem dX12_band_111 : decode cX12_band 111 = .ok (.iload_n 1, 1) := by decide +kernel
theorem dX12_band_112 : decode cX12_band 112 = .ok (.iaload, 1) := by decide +kernel
theorem dX12_band_113 : decode cX12_band 113 = .ok (.i2l, 1) := by decide +kernel
theorem dX12_band_114 : decode cX12_band 114 = .ok (.aload_n 0, 1) := by decide +kernel
theorem dX12_band_115 : decode cX12_band 115 = .ok (.getfield 51, 3) := by decide +kernel
theorem dX12_band_118 : decode cX12_band 118 = .ok (.iload_n 1, 1) := by decide +kernel
theorem dX12_band_119 : decode cX12_band 119 = .ok (.invokevirtual 206, 3) := by decide +kernel
theorem dX12_band_122 : decode cX12_band 122 = .ok (.i2l, 1) := by decide +kernel
theorem dX12_band_123 : decode cX12_band 123 = .ok (.iconst 0, 1) := by decide +kernel
theorem dX12_band_124 : decode cX12_band 124 = .ok (.invokestatic 209, 3) := by decide +kernel
theorem dX12_band_127 : decode cX12_band 127 = .ok (.l2i, 1) := by decide +kernel
theorem dX12_band_128 : decode cX12_band 128 = .ok (.ireturn, 1) := by decide +kernel
theorem dX12_band_129 : decode cX12_band 129 = .ok (.aload_n 0, 1) := by decide +kernel
theorem dX12_band_130 : decode cX12_band 130 = .ok (.getfield 51, 3) := by decide +kernel
theorem dX12_band_133 : decode cX12_band 133 = .ok (.getfield 205, 3) := by decide +kernel
theorem dX12_band_136 : decode cX12_band 136 = .ok (.iload_n 1, 1) := by decide +kernel
theorem dX12_band_137 : decode cX12_band 137 = .ok (.iaload, 1) := by decide +kernel
theorem dX12_band_138 : decode cX12_band 138 = .ok (.i2l, 1) := by decide +kernel
theorem dX12_band_139 : decode cX12_band 139 = .ok (.aload_n 0, 1) := by decide +kernel
theorem dX12_band_140 : decode cX12_band 140 = .ok (.getfield 51, 3) := by decide +kernel
theorem dX12_band_143 : decode cX12_band 143 = .ok (.iload_n 1, 1) := by decide +kernel
theorem dX12_band_144 : decode cX12_band 144 = .ok (.invokevirtual 206, 3) := by decide +kernel
theorem dX12_band_147 : decode cX12_band 147 = .ok (.i2l, 1) := by decide +kernel
theorem dX12_band_148 : decode cX12_band 148 = .ok (.iconst 1, 1) := by decide +kernel
theorem dX12_band_149 : decode cX12_band 149 = .ok (.invokestatic 209, 3) := by decide +kernel
theorem dX12_band_152 : decode cX12_band 152 = .ok (.l2i, 1) := by decide +kernel
theorem dX12_band_153 : decode cX12_band 153 = .ok (.ireturn, 1) := by decide +kernel
theorem dX12_band_154 : decode cX12_band 154 = .ok (.aload_n 0, 1) := by decide +kernel
theorem dX12_band_155 : decode cX12_band 155 = .ok (.getfield 51, 3) := by decide +kernel
theorem dX12_band_158 : decode cX12_band 158 = .ok (.getfield 215, 3) := by decide +kernel
theorem dX12_band_161 : decode cX12_band 161 = .ok (.iload_n 1, 1) := by decide +kernel
theorem dX12_band_162 : decode cX12_band 162 = .ok (.iaload, 1) := by decide +kernel
theorem dX12_band_163 : decode cX12_band 163 = .ok (.ireturn, 1) := by decide +kernel
theorem dX12_band_164 : decode cX12_band 164 = .ok (.aload_n 0, 1) := by decide +kernel
theorem dX12_band_165 : decode cX12_band 165 = .ok (.aload_n 0, 1) := by decide +kernel
theorem dX12_band_166 : decode cX12_band 166 = .ok (.getfield 109, 3) := by decide +kernel
theorem dX12_band_169 : decode cX12_band 169 = .ok (.iload_n 1, 1) := by decide +kernel
theorem dX12_band_170 : decode cX12_band 170 = .ok (.invokevirtual 218, 3) := by decide +kernel
theorem dX12_band_173 : decode cX12_band 173 = .ok (.ireturn, 1) := by decide +kernel
theorem dX12_band_174 : decode cX12_band 174 = .ok (.bipush (-2), 2) := by decide +kernel
theorem dX12_band_176 : decode cX12_band 176 = .ok (.ireturn, 1) := by decide +kernel
theorem dX12_bandOf_0 : decode cX12_bandOf 0 = .ok (.iload_n 1, 1) := by decide +kernel
theorem dX12_bandOf_1 : decode cX12_bandOf 1 = .ok (.invokestatic 222, 3) := by decide +kernel
theorem dX12_bandOf_4 : decode cX12_bandOf 4 = .ok (.ifCond .ne 6, 3) := by decide +kernel
theorem dX12_bandOf_7 : decode cX12_bandOf 7 = .ok (.bipush (-2), 2) := by decide +kernel
theorem dX12_bandOf_9 : decode cX12_bandOf 9 = .ok (.ireturn, 1) := by decide +kernel
theorem dX12_bandOf_10 : decode cX12_bandOf 10 = .ok (.aload_n 0, 1) := by decide +kernel
theorem dX12_bandOf_11 : decode cX12_bandOf 11 = .ok (.invokevirtual 151, 3) := by decide +kernel
theorem dX12_bandOf_14 : decode cX12_bandOf 14 = .ok (.aload_n 0, 1) := by decide +kernel
theorem dX12_bandOf_15 : decode cX12_bandOf 15 = .ok (.getfield 51, 3) := by decide +kernel
theorem dX12_bandOf_18 : decode cX12_bandOf 18 = .ok (.iload_n 1, 1) := by decide +kernel
theorem dX12_bandOf_19 : decode cX12_bandOf 19 = .ok (.invokevirtual 193, 3) := by decide +kernel
theorem dX12_bandOf_22 : decode cX12_bandOf 22 = .ok (.ireturn, 1) := by decide +kernel
theorem dX12_rate_0 : decode cX12_rate 0 = .ok (.aload_n 0, 1) := by decide +kernel
theorem dX12_rate_1 : decode cX12_rate 1 = .ok (.invokevirtual 151, 3) := by decide +kernel
theorem dX12_rate_4 : decode cX12_rate 4 = .ok (.aload_n 0, 1) := by decide +kernel
theorem dX12_rate_5 : decode cX12_rate 5 = .ok (.getfield 51, 3) := by decide +kernel
theorem dX12_rate_8 : decode cX12_rate 8 = .ok (.iload_n 1, 1) := by decide +kernel
theorem dX12_rate_9 : decode cX12_rate 9 = .ok (.invokevirtual 197, 3) := by decide +kernel
theorem dX12_rate_12 : decode cX12_rate 12 = .ok (.ifCond .ne 7, 3) := by decide +kernel
theorem dX12_rate_15 : decode cX12_rate 15 = .ok (.ldc2_w 225, 3) := by decide +kernel
theorem dX12_rate_18 : decode cX12_rate 18 = .ok (.lreturn, 1) := by decide +kernel
theorem dX12_rate_19 : decode cX12_rate 19 = .ok (.aload_n 0, 1) := by decide +kernel
theorem dX12_rate_20 : decode cX12_rate 20 = .ok (.getfield 51, 3) := by decide +kernel
theorem dX12_rate_23 : decode cX12_rate 23 = .ok (.getfield 205, 3) := by decide +kernel
theorem dX12_rate_26 : decode cX12_rate 26 = .ok (.iload_n 1, 1) := by decide +kernel
theorem dX12_rate_27 : decode cX12_rate 27 = .ok (.iaload, 1) := by decide +kernel
theorem dX12_rate_28 : decode cX12_rate 28 = .ok (.i2l, 1) := by decide +kernel
theorem dX12_rate_29 : decode cX12_rate 29 = .ok (.aload_n 0, 1) := by decide +kernel
theorem dX12_rate_30 : decode cX12_rate 30 = .ok (.getfield 51, 3) := by decide +kernel
theorem dX12_rate_33 : decode cX12_rate 33 = .ok (.iload_n 1, 1) := by decide +kernel
theorem dX12_rate_34 : decode cX12_rate 34 = .ok (.invokevirtual 206, 3) := by decide +kernel
theorem dX12_rate_37 : decode cX12_rate 37 = .ok (.i2l, 1) := by decide +kernel
theorem dX12_rate_38 : decode cX12_rate 38 = .ok (.invokestatic 227, 3) := by decide +kernel
theorem dX12_rate_41 : decode cX12_rate 41 = .ok (.dstore_n 3, 1) := by decide +kernel
theorem dX12_rate_42 : decode cX12_rate 42 = .ok (.ldc2_w 231, 3) := by decide +kernel
theorem dX12_rate_45 : decode cX12_rate 45 = .ok (.dload_n 3, 1) := by decide +kernel
theorem dX12_rate_46 : decode cX12_rate 46 = .ok (.dmul, 1) := by decide +kernel
theorem dX12_rate_47 : decode cX12_rate 47 = .ok (.dstore 5, 2) := by decide +kernel
theorem dX12_rate_49 : decode cX12_rate 49 = .ok (.iload_n 2, 1) := by decide +kernel
theorem dX12_rate_50 : decode cX12_rate 50 = .ok (.tableswitch 56 0 3 #[30, 35, 41, 52], 30) := by decide +kernel
theorem dX12_rate_80 : decode cX12_rate 80 = .ok (.dload_n 3, 1) := by decide +kernel
theorem dX12_rate_81 : decode cX12_rate 81 = .ok (.invokestatic 233, 3) := by decide +kernel
theorem dX12_rate_84 : decode cX12_rate 84 = .ok (.lreturn, 1) := by decide +kernel
theorem dX12_rate_85 : decode cX12_rate 85 = .ok (.dload_n 3, 1) := by decide +kernel
theorem dX12_rate_86 : decode cX12_rate 86 = .ok (.d2f, 1) := by decide +kernel
theorem dX12_rate_87 : decode cX12_rate 87 = .ok (.invokestatic 237, 3) := by decide +kernel
theorem dX12_rate_90 : decode cX12_rate 90 = .ok (.lreturn, 1) := by decide +kernel
theorem dX12_rate_91 : decode cX12_rate 91 = .ok (.dload 5, 2) := by decide +kernel
theorem dX12_rate_93 : decode cX12_rate 93 = .ok (.dload 5, 2) := by decide +kernel
theorem dX12_rate_95 : decode cX12_rate 95 = .ok (.d2l, 1) := by decide +kernel
theorem dX12_rate_96 : decode cX12_rate 96 = .ok (.l2d, 1) := by decide +kernel
theorem dX12_rate_97 : decode cX12_rate 97 = .ok (.dsub, 1) := by decide +kernel
theorem dX12_rate_98 : decode cX12_rate 98 = .ok (.invokestatic 233, 3) := by decide +kernel
theorem dX12_rate_101 : decode cX12_rate 101 = .ok (.lreturn, 1) := by decide +kernel
theorem dX12_rate_102 : decode cX12_rate 102 = .ok (.dload 5, 2) := by decide +kernel
theorem dX12_rate_104 : decode cX12_rate 104 = .ok (.d2l, 1) := by decide +kernel
theorem dX12_rate_105 : decode cX12_rate 105 = .ok (.lreturn, 1) := by decide +kernel
theorem dX12_rate_106 : decode cX12_rate 106 = .ok (.ldc2_w 225, 3) := by decide +kernel
theorem dX12_rate_109 : decode cX12_rate 109 = .ok (.lreturn, 1) := by decide +kernel
theorem dX12_error_0 : decode cX12_error 0 = .ok (.aload_n 0, 1) := by decide +kernel
theorem dX12_error_1 : decode cX12_error 1 = .ok (.invokevirtual 151, 3) := by decide +kernel
theorem dX12_error_4 : decode cX12_error 4 = .ok (.dconst 0, 1) := by decide +kernel
theorem dX12_error_5 : decode cX12_error 5 = .ok (.dstore_n 1, 1) := by decide +kernel
theorem dX12_error_6 : decode cX12_error 6 = .ok (.iconst 0, 1) := by decide +kernel
theorem dX12_error_7 : decode cX12_error 7 = .ok (.istore_n 3, 1) := by decide +kernel
theorem dX12_error_8 : decode cX12_error 8 = .ok (.iload_n 3, 1) := by decide +kernel
theorem dX12_error_9 : decode cX12_error 9 = .ok (.aload_n 0, 1) := by decide +kernel
theorem dX12_error_10 : decode cX12_error 10 = .ok (.getfield 51, 3) := by decide +kernel
theorem dX12_error_13 : decode cX12_error 13 = .ok (.getfield 162, 3) := by decide +kernel
theorem dX12_error_16 : decode cX12_error 16 = .ok (.if_icmp .ge 45, 3) := by decide +kernel
theorem dX12_error_19 : decode cX12_error 19 = .ok (.dload_n 1, 1) := by decide +kernel
theorem dX12_error_20 : decode cX12_error 20 = .ok (.aload_n 0, 1) := by decide +kernel
theorem dX12_error_21 : decode cX12_error 21 = .ok (.getfield 51, 3) := by decide +kernel
theorem dX12_error_24 : decode cX12_error 24 = .ok (.getfield 204, 3) := by decide +kernel
theorem dX12_error_27 : decode cX12_error 27 = .ok (.iload_n 3, 1) := by decide +kernel
theorem dX12_error_28 : decode cX12_error 28 = .ok (.iaload, 1) := by decide +kernel
theorem dX12_error_29 : decode cX12_error 29 = .ok (.i2l, 1) := by decide +kernel
theorem dX12_error_30 : decode cX12_error 30 = .ok (.aload_n 0, 1) := by decide +kernel
theorem dX12_error_31 : decode cX12_error 31 = .ok (.getfield 51, 3) := by decide +kernel
theorem dX12_error_34 : decode cX12_error 34 = .ok (.getfield 205, 3) := by decide +kernel
theorem dX12_error_37 : decode cX12_error 37 = .ok (.iload_n 3, 1) := by decide +kernel
theorem dX12_error_38 : decode cX12_error 38 = .ok (.iaload, 1) := by decide +kernel
theorem dX12_error_39 : decode cX12_error 39 = .ok (.i2l, 1) := by decide +kernel
theorem dX12_error_40 : decode cX12_error 40 = .ok (.lmul, 1) := by decide +kernel
theorem dX12_error_41 : decode cX12_error 41 = .ok (.aload_n 0, 1) := by decide +kernel
theorem dX12_error_42 : decode cX12_error 42 = .ok (.getfield 51, 3) := by decide +kernel
theorem dX12_error_45 : decode cX12_error 45 = .ok (.iload_n 3, 1) := by decide +kernel
theorem dX12_error_46 : decode cX12_error 46 = .ok (.invokevirtual 206, 3) := by decide +kernel
theorem dX12_error_49 : decode cX12_error 49 = .ok (.i2l, 1) := by decide +kernel
theorem dX12_error_50 : decode cX12_error 50 = .ok (.invokestatic 227, 3) := by decide +kernel
theorem dX12_error_53 : decode cX12_error 53 = .ok (.dadd, 1) := by decide +kernel
theorem dX12_error_54 : decode cX12_error 54 = .ok (.dstore_n 1, 1) := by decide +kernel
theorem dX12_error_55 : decode cX12_error 55 = .ok (.iinc 3 1, 3) := by decide +kernel
theorem dX12_error_58 : decode cX12_error 58 = .ok (.goto (-50), 3) := by decide +kernel
theorem dX12_error_61 : decode cX12_error 61 = .ok (.dload_n 1, 1) := by decide +kernel
theorem dX12_error_62 : decode cX12_error 62 = .ok (.invokestatic 233, 3) := by decide +kernel
theorem dX12_error_65 : decode cX12_error 65 = .ok (.lreturn, 1) := by decide +kernel
theorem dX12_joint_0 : decode cX12_joint 0 = .ok (.aload_n 0, 1) := by decide +kernel
theorem dX12_joint_1 : decode cX12_joint 1 = .ok (.invokevirtual 151, 3) := by decide +kernel
theorem dX12_joint_4 : decode cX12_joint 4 = .ok (.aload_n 0, 1) := by decide +kernel
theorem dX12_joint_5 : decode cX12_joint 5 = .ok (.getfield 51, 3) := by decide +kernel
theorem dX12_joint_8 : decode cX12_joint 8 = .ok (.iload_n 1, 1) := by decide +kernel
theorem dX12_joint_9 : decode cX12_joint 9 = .ok (.invokevirtual 197, 3) := by decide +kernel
theorem dX12_joint_12 : decode cX12_joint 12 = .ok (.ifCond .eq 16, 3) := by decide +kernel
theorem dX12_joint_15 : decode cX12_joint 15 = .ok (.iload_n 1, 1) := by decide +kernel
theorem dX12_joint_16 : decode cX12_joint 16 = .ok (.aload_n 0, 1) := by decide +kernel
theorem dX12_joint_17 : decode cX12_joint 17 = .ok (.getfield 51, 3) := by decide +kernel
theorem dX12_joint_20 : decode cX12_joint 20 = .ok (.getfield 162, 3) := by decide +kernel
theorem dX12_joint_23 : decode cX12_joint 23 = .ok (.iconst 1, 1) := by decide +kernel
theorem dX12_joint_24 : decode cX12_joint 24 = .ok (.isub, 1) := by decide +kernel
theorem dX12_joint_25 : decode cX12_joint 25 = .ok (.if_icmp .lt 7, 3) := by decide +kernel
theorem dX12_joint_28 : decode cX12_joint 28 = .ok (.ldc2_w 225, 3) := by decide +kernel
theorem dX12_joint_31 : decode cX12_joint 31 = .ok (.lreturn, 1) := by decide +kernel
theorem dX12_joint_32 : decode cX12_joint 32 = .ok (.aload_n 0, 1) := by decide +kernel
theorem dX12_joint_33 : decode cX12_joint 33 = .ok (.getfield 51, 3) := by decide +kernel
theorem dX12_joint_36 : decode cX12_joint 36 = .ok (.iload_n 1, 1) := by decide +kernel
theorem dX12_joint_37 : decode cX12_joint 37 = .ok (.invokevirtual 241, 3) := by decide +kernel
theorem dX12_joint_40 : decode cX12_joint 40 = .ok (.aload_n 0, 1) := by decide +kernel
theorem dX12_joint_41 : decode cX12_joint 41 = .ok (.getfield 51, 3) := by decide +kernel
theorem dX12_joint_44 : decode cX12_joint 44 = .ok (.iload_n 1, 1) := by decide +kernel
theorem dX12_joint_45 : decode cX12_joint 45 = .ok (.invokevirtual 245, 3) := by decide +kernel
theorem dX12_joint_48 : decode cX12_joint 48 = .ok (.invokestatic 227, 3) := by decide +kernel
theorem dX12_joint_51 : decode cX12_joint 51 = .ok (.invokestatic 233, 3) := by decide +kernel
theorem dX12_joint_54 : decode cX12_joint 54 = .ok (.lreturn, 1) := by decide +kernel
theorem dX12_auc_0 : decode cX12_auc 0 = .ok (.aload_n 0, 1) := by decide +kernel
theorem dX12_auc_1 : decode cX12_auc 1 = .ok (.invokevirtual 151, 3) := by decide +kernel
theorem dX12_auc_4 : decode cX12_auc 4 = .ok (.aload_n 0, 1) := by decide +kernel
theorem dX12_auc_5 : decode cX12_auc 5 = .ok (.getfield 40, 3) := by decide +kernel
theorem dX12_auc_8 : decode cX12_auc 8 = .ok (.invokevirtual 248, 3) := by decide +kernel
theorem dX12_auc_11 : decode cX12_auc 11 = .ok (.ifCond .eq 12, 3) := by decide +kernel
theorem dX12_auc_14 : decode cX12_auc 14 = .ok (.iload_n 1, 1) := by decide +kernel
theorem dX12_auc_15 : decode cX12_auc 15 = .ok (.ifCond .lt 8, 3) := by decide +kernel
theorem dX12_auc_18 : decode cX12_auc 18 = .ok (.iload_n 1, 1) := by decide +kernel
theorem dX12_auc_19 : decode cX12_auc 19 = .ok (.iconst 1, 1) := by decide +kernel
theorem dX12_auc_20 : decode cX12_auc 20 = .ok (.if_icmp .le 7, 3) := by decide +kernel
theorem dX12_auc_23 : decode cX12_auc 23 = .ok (.ldc2_w 225, 3) := by decide +kernel
theorem dX12_auc_26 : decode cX12_auc 26 = .ok (.lreturn, 1) := by decide +kernel
theorem dX12_auc_27 : decode cX12_auc 27 = .ok (.aload_n 0, 1) := by decide +kernel
theorem dX12_auc_28 : decode cX12_auc 28 = .ok (.getfield 40, 3) := by decide +kernel
theorem dX12_auc_31 : decode cX12_auc 31 = .ok (.invokevirtual 252, 3) := by decide +kernel
theorem dX12_auc_34 : decode cX12_auc 34 = .ok (.ldc2_w 256, 3) := by decide +kernel
theorem dX12_auc_37 : decode cX12_auc 37 = .ok (.aload_n 0, 1) := by decide +kernel
theorem dX12_auc_38 : decode cX12_auc 38 = .ok (.getfield 40, 3) := by decide +kernel
theorem dX12_auc_41 : decode cX12_auc 41 = .ok (.invokevirtual 155, 3) := by decide +kernel
theorem dX12_auc_44 : decode cX12_auc 44 = .ok (.i2l, 1) := by decide +kernel
theorem dX12_auc_45 : decode cX12_auc 45 = .ok (.lmul, 1) := by decide +kernel
theorem dX12_auc_46 : decode cX12_auc 46 = .ok (.aload_n 0, 1) := by decide +kernel
theorem dX12_auc_47 : decode cX12_auc 47 = .ok (.getfield 40, 3) := by decide +kernel
theorem dX12_auc_50 : decode cX12_auc 50 = .ok (.invokevirtual 159, 3) := by decide +kernel
theorem dX12_auc_53 : decode cX12_auc 53 = .ok (.i2l, 1) := by decide +kernel
theorem dX12_auc_54 : decode cX12_auc 54 = .ok (.lmul, 1) := by decide +kernel
theorem dX12_auc_55 : decode cX12_auc 55 = .ok (.iload_n 1, 1) := by decide +kernel
theorem dX12_auc_56 : decode cX12_auc 56 = .ok (.invokestatic 209, 3) := by decide +kernel
theorem dX12_auc_59 : decode cX12_auc 59 = .ok (.lreturn, 1) := by decide +kernel
theorem dX12_ks_0 : decode cX12_ks 0 = .ok (.aload_n 0, 1) := by decide +kernel
theorem dX12_ks_1 : decode cX12_ks 1 = .ok (.invokevirtual 151, 3) := by decide +kernel
theorem dX12_ks_4 : decode cX12_ks 4 = .ok (.aload_n 0, 1) := by decide +kernel
theorem dX12_ks_5 : decode cX12_ks 5 = .ok (.getfield 40, 3) := by decide +kernel
theorem dX12_ks_8 : decode cX12_ks 8 = .ok (.invokevirtual 248, 3) := by decide +kernel
theorem dX12_ks_11 : decode cX12_ks 11 = .ok (.ifCond .eq 12, 3) := by decide +kernel
theorem dX12_ks_14 : decode cX12_ks 14 = .ok (.iload_n 1, 1) := by decide +kernel
theorem dX12_ks_15 : decode cX12_ks 15 = .ok (.ifCond .lt 8, 3) := by decide +kernel
theorem dX12_ks_18 : decode cX12_ks 18 = .ok (.iload_n 1, 1) := by decide +kernel
theorem dX12_ks_19 : decode cX12_ks 19 = .ok (.iconst 2, 1) := by decide +kernel
theorem dX12_ks_20 : decode cX12_ks 20 = .ok (.if_icmp .le 7, 3) := by decide +kernel
theorem dX12_ks_23 : decode cX12_ks 23 = .ok (.ldc2_w 225, 3) := by decide +kernel
theorem dX12_ks_26 : decode cX12_ks 26 = .ok (.lreturn, 1) := by decide +kernel
theorem dX12_ks_27 : decode cX12_ks 27 = .ok (.aload_n 0, 1) := by decide +kernel
theorem dX12_ks_28 : decode cX12_ks 28 = .ok (.getfield 40, 3) := by decide +kernel
theorem dX12_ks_31 : decode cX12_ks 31 = .ok (.invokevirtual 258, 3) := by decide +kernel
theorem dX12_ks_34 : decode cX12_ks 34 = .ok (.istore_n 2, 1) := by decide +kernel
theorem dX12_ks_35 : decode cX12_ks 35 = .ok (.iload_n 1, 1) := by decide +kernel
theorem dX12_ks_36 : decode cX12_ks 36 = .ok (.iconst 2, 1) := by decide +kernel
theorem dX12_ks_37 : decode cX12_ks 37 = .ok (.if_icmp .ne 14, 3) := by decide +kernel
theorem dX12_ks_40 : decode cX12_ks 40 = .ok (.aload_n 0, 1) := by decide +kernel
theorem dX12_ks_41 : decode cX12_ks 41 = .ok (.getfield 40, 3) := by decide +kernel
theorem dX12_ks_44 : decode cX12_ks 44 = .ok (.getfield 184, 3) := by decide +kernel
theorem dX12_ks_47 : decode cX12_ks 47 = .ok (.iload_n 2, 1) := by decide +kernel
theorem dX12_ks_48 : decode cX12_ks 48 = .ok (.iaload, 1) := by decide +kernel
theorem dX12_ks_49 : decode cX12_ks 49 = .ok (.i2l, 1) := by decide +kernel
theorem dX12_ks_50 : decode cX12_ks 50 = .ok (.lreturn, 1) := by decide +kernel
theorem dX12_ks_51 : decode cX12_ks 51 = .ok (.aload_n 0, 1) := by decide +kernel
theorem dX12_ks_52 : decode cX12_ks 52 = .ok (.getfield 40, 3) := by decide +kernel
theorem dX12_ks_55 : decode cX12_ks 55 = .ok (.iload_n 2, 1) := by decide +kernel
theorem dX12_ks_56 : decode cX12_ks 56 = .ok (.invokevirtual 261, 3) := by decide +kernel
theorem dX12_ks_59 : decode cX12_ks 59 = .ok (.aload_n 0, 1) := by decide +kernel
theorem dX12_ks_60 : decode cX12_ks 60 = .ok (.getfield 40, 3) := by decide +kernel
theorem dX12_ks_63 : decode cX12_ks 63 = .ok (.invokevirtual 155, 3) := by decide +kernel
theorem dX12_ks_66 : decode cX12_ks 66 = .ok (.i2l, 1) := by decide +kernel
theorem dX12_ks_67 : decode cX12_ks 67 = .ok (.aload_n 0, 1) := by decide +kernel
theorem dX12_ks_68 : decode cX12_ks 68 = .ok (.getfield 40, 3) := by decide +kernel
theorem dX12_ks_71 : decode cX12_ks 71 = .ok (.invokevirtual 159, 3) := by decide +kernel
theorem dX12_ks_74 : decode cX12_ks 74 = .ok (.i2l, 1) := by decide +kernel
theorem dX12_ks_75 : decode cX12_ks 75 = .ok (.lmul, 1) := by decide +kernel
theorem dX12_ks_76 : decode cX12_ks 76 = .ok (.iload_n 1, 1) := by decide +kernel
theorem dX12_ks_77 : decode cX12_ks 77 = .ok (.invokestatic 209, 3) := by decide +kernel
theorem dX12_ks_80 : decode cX12_ks 80 = .ok (.lreturn, 1) := by decide +kernel
theorem dX12_hull_0 : decode cX12_hull 0 = .ok (.iload_n 1, 1) := by decide +kernel
theorem dX12_hull_1 : decode cX12_hull 1 = .ok (.ifCond .lt 12, 3) := by decide +kernel
theorem dX12_hull_4 : decode cX12_hull 4 = .ok (.iload_n 2, 1) := by decide +kernel
theorem dX12_hull_5 : decode cX12_hull 5 = .ok (.ifCond .lt 8, 3) := by decide +kernel
theorem dX12_hull_8 : decode cX12_hull 8 = .ok (.iload_n 2, 1) := by decide +kernel
theorem dX12_hull_9 : decode cX12_hull 9 = .ok (.iconst 1, 1) := by decide +kernel
theorem dX12_hull_10 : decode cX12_hull 10 = .ok (.if_icmp .le 6, 3) := by decide +kernel
theorem dX12_hull_13 : decode cX12_hull 13 = .ok (.bipush (-2), 2) := by decide +kernel
theorem dX12_hull_15 : decode cX12_hull 15 = .ok (.ireturn, 1) := by decide +kernel
theorem dX12_hull_16 : decode cX12_hull 16 = .ok (.aload_n 0, 1) := by decide +kernel
theorem dX12_hull_17 : decode cX12_hull 17 = .ok (.invokevirtual 151, 3) := by decide +kernel
theorem dX12_hull_20 : decode cX12_hull 20 = .ok (.aload_n 0, 1) := by decide +kernel
theorem dX12_hull_21 : decode cX12_hull 21 = .ok (.getfield 47, 3) := by decide +kernel
theorem dX12_hull_24 : decode cX12_hull 24 = .ok (.getfield 162, 3) := by decide +kernel
theorem dX12_hull_27 : decode cX12_hull 27 = .ok (.ifCond .eq 14, 3) := by decide +kernel
theorem dX12_hull_30 : decode cX12_hull 30 = .ok (.iload_n 1, 1) := by decide +kernel
theorem dX12_hull_31 : decode cX12_hull 31 = .ok (.aload_n 0, 1) := by decide +kernel
theorem dX12_hull_32 : decode cX12_hull 32 = .ok (.getfield 47, 3) := by decide +kernel
theorem dX12_hull_35 : decode cX12_hull 35 = .ok (.getfield 162, 3) := by decide +kernel
theorem dX12_hull_38 : decode cX12_hull 38 = .ok (.if_icmp .le 5, 3) := by decide +kernel
theorem dX12_hull_41 : decode cX12_hull 41 = .ok (.iconst (-1), 1) := by decide +kernel
theorem dX12_hull_42 : decode cX12_hull 42 = .ok (.ireturn, 1) := by decide +kernel
theorem dX12_hull_43 : decode cX12_hull 43 = .ok (.iload_n 2, 1) := by decide +kernel
theorem dX12_hull_44 : decode cX12_hull 44 = .ok (.ifCond .ne 14, 3) := by decide +kernel
theorem dX12_hull_47 : decode cX12_hull 47 = .ok (.aload_n 0, 1) := by decide +kernel
theorem dX12_hull_48 : decode cX12_hull 48 = .ok (.getfield 47, 3) := by decide +kernel
