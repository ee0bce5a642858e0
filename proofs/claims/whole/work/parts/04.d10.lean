theorem dX13_isDecision_12 : decode cX13_isDecision 12 = .ok (.isub, 1) := by decide +kernel
theorem dX13_isDecision_13 : decode cX13_isDecision 13 = .ok (.i2l, 1) := by decide +kernel
theorem dX13_isDecision_14 : decode cX13_isDecision 14 = .ok (.invokestatic 86, 3) := by decide +kernel
theorem dX13_isDecision_17 : decode cX13_isDecision 17 = .ok (.ireturn, 1) := by decide +kernel
theorem dX13_decision_0 : decode cX13_decision 0 = .ok (.aload_n 0, 1) := by decide +kernel
theorem dX13_decision_1 : decode cX13_decision 1 = .ok (.iload_n 1, 1) := by decide +kernel
theorem dX13_decision_2 : decode cX13_decision 2 = .ok (.invokevirtual 426, 3) := by decide +kernel
theorem dX13_decision_5 : decode cX13_decision 5 = .ok (.ifCond .eq 32, 3) := by decide +kernel
theorem dX13_decision_8 : decode cX13_decision 8 = .ok (.iload_n 2, 1) := by decide +kernel
theorem dX13_decision_9 : decode cX13_decision 9 = .ok (.i2l, 1) := by decide +kernel
theorem dX13_decision_10 : decode cX13_decision 10 = .ok (.lconst 0, 1) := by decide +kernel
theorem dX13_decision_11 : decode cX13_decision 11 = .ok (.ldc2_w 429, 3) := by decide +kernel
theorem dX13_decision_14 : decode cX13_decision 14 = .ok (.invokestatic 86, 3) := by decide +kernel
theorem dX13_decision_17 : decode cX13_decision 17 = .ok (.ifCond .eq 20, 3) := by decide +kernel
theorem dX13_decision_20 : decode cX13_decision 20 = .ok (.aload_n 0, 1) := by decide +kernel
theorem dX13_decision_21 : decode cX13_decision 21 = .ok (.getfield 15, 3) := by decide +kernel
theorem dX13_decision_24 : decode cX13_decision 24 = .ok (.sipush 3000, 3) := by decide +kernel
theorem dX13_decision_27 : decode cX13_decision 27 = .ok (.iconst 5, 1) := by decide +kernel
theorem dX13_decision_28 : decode cX13_decision 28 = .ok (.iload_n 1, 1) := by decide +kernel
theorem dX13_decision_29 : decode cX13_decision 29 = .ok (.imul, 1) := by decide +kernel
theorem dX13_decision_30 : decode cX13_decision 30 = .ok (.iadd, 1) := by decide +kernel
theorem dX13_decision_31 : decode cX13_decision 31 = .ok (.iload_n 2, 1) := by decide +kernel
theorem dX13_decision_32 : decode cX13_decision 32 = .ok (.iadd, 1) := by decide +kernel
theorem dX13_decision_33 : decode cX13_decision 33 = .ok (.iaload, 1) := by decide +kernel
theorem dX13_decision_34 : decode cX13_decision 34 = .ok (.goto 5, 3) := by decide +kernel
theorem dX13_decision_37 : decode cX13_decision 37 = .ok (.bipush (-2), 2) := by decide +kernel
theorem dX13_decision_39 : decode cX13_decision 39 = .ok (.ireturn, 1) := by decide +kernel
theorem dX13_outcome_0 : decode cX13_outcome 0 = .ok (.aload_n 0, 1) := by decide +kernel
theorem dX13_outcome_1 : decode cX13_outcome 1 = .ok (.iload_n 1, 1) := by decide +kernel
theorem dX13_outcome_2 : decode cX13_outcome 2 = .ok (.invokevirtual 426, 3) := by decide +kernel
theorem dX13_outcome_5 : decode cX13_outcome 5 = .ok (.ifCond .eq 13, 3) := by decide +kernel
theorem dX13_outcome_8 : decode cX13_outcome 8 = .ok (.iload_n 2, 1) := by decide +kernel
theorem dX13_outcome_9 : decode cX13_outcome 9 = .ok (.i2l, 1) := by decide +kernel
theorem dX13_outcome_10 : decode cX13_outcome 10 = .ok (.lconst 0, 1) := by decide +kernel
theorem dX13_outcome_11 : decode cX13_outcome 11 = .ok (.lconst 1, 1) := by decide +kernel
theorem dX13_outcome_12 : decode cX13_outcome 12 = .ok (.invokestatic 86, 3) := by decide +kernel
theorem dX13_outcome_15 : decode cX13_outcome 15 = .ok (.ifCond .ne 6, 3) := by decide +kernel
theorem dX13_outcome_18 : decode cX13_outcome 18 = .ok (.bipush (-2), 2) := by decide +kernel
theorem dX13_outcome_20 : decode cX13_outcome 20 = .ok (.ireturn, 1) := by decide +kernel
theorem dX13_outcome_21 : decode cX13_outcome 21 = .ok (.sipush 3000, 3) := by decide +kernel
theorem dX13_outcome_24 : decode cX13_outcome 24 = .ok (.iconst 5, 1) := by decide +kernel
theorem dX13_outcome_25 : decode cX13_outcome 25 = .ok (.iload_n 1, 1) := by decide +kernel
theorem dX13_outcome_26 : decode cX13_outcome 26 = .ok (.imul, 1) := by decide +kernel
theorem dX13_outcome_27 : decode cX13_outcome 27 = .ok (.iadd, 1) := by decide +kernel
theorem dX13_outcome_28 : decode cX13_outcome 28 = .ok (.istore_n 3, 1) := by decide +kernel
theorem dX13_outcome_29 : decode cX13_outcome 29 = .ok (.aload_n 0, 1) := by decide +kernel
theorem dX13_outcome_30 : decode cX13_outcome 30 = .ok (.getfield 15, 3) := by decide +kernel
theorem dX13_outcome_33 : decode cX13_outcome 33 = .ok (.iload_n 3, 1) := by decide +kernel
theorem dX13_outcome_34 : decode cX13_outcome 34 = .ok (.iconst 1, 1) := by decide +kernel
theorem dX13_outcome_35 : decode cX13_outcome 35 = .ok (.iadd, 1) := by decide +kernel
theorem dX13_outcome_36 : decode cX13_outcome 36 = .ok (.iaload, 1) := by decide +kernel
theorem dX13_outcome_37 : decode cX13_outcome 37 = .ok (.ifCond .eq 15, 3) := by decide +kernel
theorem dX13_outcome_40 : decode cX13_outcome 40 = .ok (.aload_n 0, 1) := by decide +kernel
theorem dX13_outcome_41 : decode cX13_outcome 41 = .ok (.getfield 15, 3) := by decide +kernel
theorem dX13_outcome_44 : decode cX13_outcome 44 = .ok (.iload_n 3, 1) := by decide +kernel
theorem dX13_outcome_45 : decode cX13_outcome 45 = .ok (.iconst 3, 1) := by decide +kernel
theorem dX13_outcome_46 : decode cX13_outcome 46 = .ok (.iadd, 1) := by decide +kernel
theorem dX13_outcome_47 : decode cX13_outcome 47 = .ok (.iaload, 1) := by decide +kernel
theorem dX13_outcome_48 : decode cX13_outcome 48 = .ok (.iconst (-1), 1) := by decide +kernel
theorem dX13_outcome_49 : decode cX13_outcome 49 = .ok (.if_icmp .eq 6, 3) := by decide +kernel
theorem dX13_outcome_52 : decode cX13_outcome 52 = .ok (.bipush (-5), 2) := by decide +kernel
theorem dX13_outcome_54 : decode cX13_outcome 54 = .ok (.ireturn, 1) := by decide +kernel
theorem dX13_outcome_55 : decode cX13_outcome 55 = .ok (.aload_n 0, 1) := by decide +kernel
theorem dX13_outcome_56 : decode cX13_outcome 56 = .ok (.invokevirtual 413, 3) := by decide +kernel
theorem dX13_outcome_59 : decode cX13_outcome 59 = .ok (.aload_n 0, 1) := by decide +kernel
theorem dX13_outcome_60 : decode cX13_outcome 60 = .ok (.getfield 15, 3) := by decide +kernel
theorem dX13_outcome_63 : decode cX13_outcome 63 = .ok (.iload_n 3, 1) := by decide +kernel
theorem dX13_outcome_64 : decode cX13_outcome 64 = .ok (.iconst 3, 1) := by decide +kernel
theorem dX13_outcome_65 : decode cX13_outcome 65 = .ok (.iadd, 1) := by decide +kernel
theorem dX13_outcome_66 : decode cX13_outcome 66 = .ok (.iload_n 2, 1) := by decide +kernel
theorem dX13_outcome_67 : decode cX13_outcome 67 = .ok (.iastore, 1) := by decide +kernel
theorem dX13_outcome_68 : decode cX13_outcome 68 = .ok (.aload_n 0, 1) := by decide +kernel
theorem dX13_outcome_69 : decode cX13_outcome 69 = .ok (.invokevirtual 410, 3) := by decide +kernel
theorem dX13_outcome_72 : decode cX13_outcome 72 = .ok (.pop, 1) := by decide +kernel
theorem dX13_outcome_73 : decode cX13_outcome 73 = .ok (.iconst 0, 1) := by decide +kernel
theorem dX13_outcome_74 : decode cX13_outcome 74 = .ok (.ireturn, 1) := by decide +kernel
theorem dX13_overrides_0 : decode cX13_overrides 0 = .ok (.iload_n 1, 1) := by decide +kernel
theorem dX13_overrides_1 : decode cX13_overrides 1 = .ok (.i2l, 1) := by decide +kernel
theorem dX13_overrides_2 : decode cX13_overrides 2 = .ok (.lconst 0, 1) := by decide +kernel
theorem dX13_overrides_3 : decode cX13_overrides 3 = .ok (.ldc2_w 272, 3) := by decide +kernel
theorem dX13_overrides_6 : decode cX13_overrides 6 = .ok (.invokestatic 86, 3) := by decide +kernel
theorem dX13_overrides_9 : decode cX13_overrides 9 = .ok (.ifCond .ne 6, 3) := by decide +kernel
theorem dX13_overrides_12 : decode cX13_overrides 12 = .ok (.bipush (-2), 2) := by decide +kernel
theorem dX13_overrides_14 : decode cX13_overrides 14 = .ok (.ireturn, 1) := by decide +kernel
theorem dX13_overrides_15 : decode cX13_overrides 15 = .ok (.iconst 0, 1) := by decide +kernel
theorem dX13_overrides_16 : decode cX13_overrides 16 = .ok (.istore_n 2, 1) := by decide +kernel
theorem dX13_overrides_17 : decode cX13_overrides 17 = .ok (.iconst 0, 1) := by decide +kernel
theorem dX13_overrides_18 : decode cX13_overrides 18 = .ok (.istore_n 3, 1) := by decide +kernel
theorem dX13_overrides_19 : decode cX13_overrides 19 = .ok (.iload_n 3, 1) := by decide +kernel
theorem dX13_overrides_20 : decode cX13_overrides 20 = .ok (.aload_n 0, 1) := by decide +kernel
theorem dX13_overrides_21 : decode cX13_overrides 21 = .ok (.getfield 15, 3) := by decide +kernel
theorem dX13_overrides_24 : decode cX13_overrides 24 = .ok (.sipush 3200, 3) := by decide +kernel
theorem dX13_overrides_27 : decode cX13_overrides 27 = .ok (.iaload, 1) := by decide +kernel
theorem dX13_overrides_28 : decode cX13_overrides 28 = .ok (.if_icmp .ge 165, 3) := by decide +kernel
theorem dX13_overrides_31 : decode cX13_overrides 31 = .ok (.sipush 3000, 3) := by decide +kernel
theorem dX13_overrides_34 : decode cX13_overrides 34 = .ok (.iconst 5, 1) := by decide +kernel
theorem dX13_overrides_35 : decode cX13_overrides 35 = .ok (.iload_n 3, 1) := by decide +kernel
theorem dX13_overrides_36 : decode cX13_overrides 36 = .ok (.imul, 1) := by decide +kernel
theorem dX13_overrides_37 : decode cX13_overrides 37 = .ok (.iadd, 1) := by decide +kernel
theorem dX13_overrides_38 : decode cX13_overrides 38 = .ok (.istore 4, 2) := by decide +kernel
theorem dX13_overrides_40 : decode cX13_overrides 40 = .ok (.aload_n 0, 1) := by decide +kernel
theorem dX13_overrides_41 : decode cX13_overrides 41 = .ok (.getfield 15, 3) := by decide +kernel
theorem dX13_overrides_44 : decode cX13_overrides 44 = .ok (.iload 4, 2) := by decide +kernel
theorem dX13_overrides_46 : decode cX13_overrides 46 = .ok (.iconst 1, 1) := by decide +kernel
theorem dX13_overrides_47 : decode cX13_overrides 47 = .ok (.iadd, 1) := by decide +kernel
theorem dX13_overrides_48 : decode cX13_overrides 48 = .ok (.iaload, 1) := by decide +kernel
theorem dX13_overrides_49 : decode cX13_overrides 49 = .ok (.aload_n 0, 1) := by decide +kernel
theorem dX13_overrides_50 : decode cX13_overrides 50 = .ok (.getfield 15, 3) := by decide +kernel
theorem dX13_overrides_53 : decode cX13_overrides 53 = .ok (.iload 4, 2) := by decide +kernel
theorem dX13_overrides_55 : decode cX13_overrides 55 = .ok (.iconst 2, 1) := by decide +kernel
theorem dX13_overrides_56 : decode cX13_overrides 56 = .ok (.iadd, 1) := by decide +kernel
theorem dX13_overrides_57 : decode cX13_overrides 57 = .ok (.iaload, 1) := by decide +kernel
theorem dX13_overrides_58 : decode cX13_overrides 58 = .ok (.if_icmp .le 7, 3) := by decide +kernel
theorem dX13_overrides_61 : decode cX13_overrides 61 = .ok (.iconst 1, 1) := by decide +kernel
theorem dX13_overrides_62 : decode cX13_overrides 62 = .ok (.goto 4, 3) := by decide +kernel
theorem dX13_overrides_65 : decode cX13_overrides 65 = .ok (.iconst 0, 1) := by decide +kernel
theorem dX13_overrides_66 : decode cX13_overrides 66 = .ok (.istore 5, 2) := by decide +kernel
theorem dX13_overrides_68 : decode cX13_overrides 68 = .ok (.iload_n 1, 1) := by decide +kernel
theorem dX13_overrides_69 : decode cX13_overrides 69 = .ok (.ifCond .ne 8, 3) := by decide +kernel
theorem dX13_overrides_72 : decode cX13_overrides 72 = .ok (.iload 5, 2) := by decide +kernel
theorem dX13_overrides_74 : decode cX13_overrides 74 = .ok (.goto 98, 3) := by decide +kernel
theorem dX13_overrides_77 : decode cX13_overrides 77 = .ok (.iload_n 1, 1) := by decide +kernel
theorem dX13_overrides_78 : decode cX13_overrides 78 = .ok (.iconst 1, 1) := by decide +kernel
theorem dX13_overrides_79 : decode cX13_overrides 79 = .ok (.if_icmp .ne 32, 3) := by decide +kernel
theorem dX13_overrides_82 : decode cX13_overrides 82 = .ok (.aload_n 0, 1) := by decide +kernel
theorem dX13_overrides_83 : decode cX13_overrides 83 = .ok (.getfield 15, 3) := by decide +kernel
theorem dX13_overrides_86 : decode cX13_overrides 86 = .ok (.iload 4, 2) := by decide +kernel
theorem dX13_overrides_88 : decode cX13_overrides 88 = .ok (.iconst 1, 1) := by decide +kernel
theorem dX13_overrides_89 : decode cX13_overrides 89 = .ok (.iadd, 1) := by decide +kernel
theorem dX13_overrides_90 : decode cX13_overrides 90 = .ok (.iaload, 1) := by decide +kernel
theorem dX13_overrides_91 : decode cX13_overrides 91 = .ok (.aload_n 0, 1) := by decide +kernel
theorem dX13_overrides_92 : decode cX13_overrides 92 = .ok (.getfield 15, 3) := by decide +kernel
theorem dX13_overrides_95 : decode cX13_overrides 95 = .ok (.iload 4, 2) := by decide +kernel
theorem dX13_overrides_97 : decode cX13_overrides 97 = .ok (.iconst 2, 1) := by decide +kernel
theorem dX13_overrides_98 : decode cX13_overrides 98 = .ok (.iadd, 1) := by decide +kernel
theorem dX13_overrides_99 : decode cX13_overrides 99 = .ok (.iaload, 1) := by decide +kernel
theorem dX13_overrides_100 : decode cX13_overrides 100 = .ok (.if_icmp .ge 7, 3) := by decide +kernel
theorem dX13_overrides_103 : decode cX13_overrides 103 = .ok (.iconst 1, 1) := by decide +kernel
theorem dX13_overrides_104 : decode cX13_overrides 104 = .ok (.goto 68, 3) := by decide +kernel
theorem dX13_overrides_107 : decode cX13_overrides 107 = .ok (.iconst 0, 1) := by decide +kernel
theorem dX13_overrides_108 : decode cX13_overrides 108 = .ok (.goto 64, 3) := by decide +kernel
theorem dX13_overrides_111 : decode cX13_overrides 111 = .ok (.iload_n 1, 1) := by decide +kernel
theorem dX13_overrides_112 : decode cX13_overrides 112 = .ok (.iconst 2, 1) := by decide +kernel
theorem dX13_overrides_113 : decode cX13_overrides 113 = .ok (.if_icmp .ne 29, 3) := by decide +kernel
theorem dX13_overrides_116 : decode cX13_overrides 116 = .ok (.iload 5, 2) := by decide +kernel
theorem dX13_overrides_118 : decode cX13_overrides 118 = .ok (.ifCond .eq 20, 3) := by decide +kernel
theorem dX13_overrides_121 : decode cX13_overrides 121 = .ok (.aload_n 0, 1) := by decide +kernel
theorem dX13_overrides_122 : decode cX13_overrides 122 = .ok (.getfield 15, 3) := by decide +kernel
theorem dX13_overrides_125 : decode cX13_overrides 125 = .ok (.iload 4, 2) := by decide +kernel
theorem dX13_overrides_127 : decode cX13_overrides 127 = .ok (.iconst 3, 1) := by decide +kernel
theorem dX13_overrides_128 : decode cX13_overrides 128 = .ok (.iadd, 1) := by decide +kernel
theorem dX13_overrides_129 : decode cX13_overrides 129 = .ok (.iaload, 1) := by decide +kernel
theorem dX13_overrides_130 : decode cX13_overrides 130 = .ok (.iconst 1, 1) := by decide +kernel
theorem dX13_overrides_131 : decode cX13_overrides 131 = .ok (.if_icmp .ne 7, 3) := by decide +kernel
theorem dX13_overrides_134 : decode cX13_overrides 134 = .ok (.iconst 1, 1) := by decide +kernel
theorem dX13_overrides_135 : decode cX13_overrides 135 = .ok (.goto 37, 3) := by decide +kernel
theorem dX13_overrides_138 : decode cX13_overrides 138 = .ok (.iconst 0, 1) := by decide +kernel
theorem dX13_overrides_139 : decode cX13_overrides 139 = .ok (.goto 33, 3) := by decide +kernel
theorem dX13_overrides_142 : decode cX13_overrides 142 = .ok (.aload_n 0, 1) := by decide +kernel
theorem dX13_overrides_143 : decode cX13_overrides 143 = .ok (.getfield 15, 3) := by decide +kernel
theorem dX13_overrides_146 : decode cX13_overrides 146 = .ok (.iload 4, 2) := by decide +kernel
theorem dX13_overrides_148 : decode cX13_overrides 148 = .ok (.iconst 3, 1) := by decide +kernel
theorem dX13_overrides_149 : decode cX13_overrides 149 = .ok (.iadd, 1) := by decide +kernel
theorem dX13_overrides_150 : decode cX13_overrides 150 = .ok (.iaload, 1) := by decide +kernel
theorem dX13_overrides_151 : decode cX13_overrides 151 = .ok (.iconst (-1), 1) := by decide +kernel
theorem dX13_overrides_152 : decode cX13_overrides 152 = .ok (.if_icmp .eq 19, 3) := by decide +kernel
theorem dX13_overrides_155 : decode cX13_overrides 155 = .ok (.aload_n 0, 1) := by decide +kernel
theorem dX13_overrides_156 : decode cX13_overrides 156 = .ok (.getfield 15, 3) := by decide +kernel
theorem dX13_overrides_159 : decode cX13_overrides 159 = .ok (.iload 4, 2) := by decide +kernel
theorem dX13_overrides_161 : decode cX13_overrides 161 = .ok (.iconst 4, 1) := by decide +kernel
theorem dX13_overrides_162 : decode cX13_overrides 162 = .ok (.iadd, 1) := by decide +kernel
theorem dX13_overrides_163 : decode cX13_overrides 163 = .ok (.iaload, 1) := by decide +kernel
theorem dX13_overrides_164 : decode cX13_overrides 164 = .ok (.ifCond .ne 7, 3) := by decide +kernel
theorem dX13_overrides_167 : decode cX13_overrides 167 = .ok (.iconst 1, 1) := by decide +kernel
theorem dX13_overrides_168 : decode cX13_overrides 168 = .ok (.goto 4, 3) := by decide +kernel
theorem dX13_overrides_171 : decode cX13_overrides 171 = .ok (.iconst 0, 1) := by decide +kernel
theorem dX13_overrides_172 : decode cX13_overrides 172 = .ok (.istore 6, 2) := by decide +kernel
theorem dX13_overrides_174 : decode cX13_overrides 174 = .ok (.iload_n 2, 1) := by decide +kernel
theorem dX13_overrides_175 : decode cX13_overrides 175 = .ok (.iload 6, 2) := by decide +kernel
theorem dX13_overrides_177 : decode cX13_overrides 177 = .ok (.ifCond .eq 7, 3) := by decide +kernel
theorem dX13_overrides_180 : decode cX13_overrides 180 = .ok (.iconst 1, 1) := by decide +kernel
theorem dX13_overrides_181 : decode cX13_overrides 181 = .ok (.goto 4, 3) := by decide +kernel
theorem dX13_overrides_184 : decode cX13_overrides 184 = .ok (.iconst 0, 1) := by decide +kernel
theorem dX13_overrides_185 : decode cX13_overrides 185 = .ok (.iadd, 1) := by decide +kernel
theorem dX13_overrides_186 : decode cX13_overrides 186 = .ok (.istore_n 2, 1) := by decide +kernel
theorem dX13_overrides_187 : decode cX13_overrides 187 = .ok (.iinc 3 1, 3) := by decide +kernel
theorem dX13_overrides_190 : decode cX13_overrides 190 = .ok (.goto (-171), 3) := by decide +kernel
theorem dX13_overrides_193 : decode cX13_overrides 193 = .ok (.iload_n 2, 1) := by decide +kernel
theorem dX13_overrides_194 : decode cX13_overrides 194 = .ok (.ireturn, 1) := by decide +kernel
theorem dX13_learn_0 : decode cX13_learn 0 = .ok (.aload_n 0, 1) := by decide +kernel
theorem dX13_learn_1 : decode cX13_learn 1 = .ok (.invokevirtual 413, 3) := by decide +kernel
theorem dX13_learn_4 : decode cX13_learn 4 = .ok (.iconst 0, 1) := by decide +kernel
theorem dX13_learn_5 : decode cX13_learn 5 = .ok (.istore_n 1, 1) := by decide +kernel
theorem dX13_learn_6 : decode cX13_learn 6 = .ok (.iconst 0, 1) := by decide +kernel
theorem dX13_learn_7 : decode cX13_learn 7 = .ok (.istore_n 2, 1) := by decide +kernel
theorem dX13_learn_8 : decode cX13_learn 8 = .ok (.iload_n 2, 1) := by decide +kernel
theorem dX13_learn_9 : decode cX13_learn 9 = .ok (.aload_n 0, 1) := by decide +kernel
theorem dX13_learn_10 : decode cX13_learn 10 = .ok (.getfield 15, 3) := by decide +kernel
theorem dX13_learn_13 : decode cX13_learn 13 = .ok (.sipush 3200, 3) := by decide +kernel
theorem dX13_learn_16 : decode cX13_learn 16 = .ok (.iaload, 1) := by decide +kernel
theorem dX13_learn_17 : decode cX13_learn 17 = .ok (.if_icmp .ge 91, 3) := by decide +kernel
theorem dX13_learn_20 : decode cX13_learn 20 = .ok (.sipush 3000, 3) := by decide +kernel
theorem dX13_learn_23 : decode cX13_learn 23 = .ok (.iconst 5, 1) := by decide +kernel
theorem dX13_learn_24 : decode cX13_learn 24 = .ok (.iload_n 2, 1) := by decide +kernel
theorem dX13_learn_25 : decode cX13_learn 25 = .ok (.imul, 1) := by decide +kernel
theorem dX13_learn_26 : decode cX13_learn 26 = .ok (.iadd, 1) := by decide +kernel
theorem dX13_learn_27 : decode cX13_learn 27 = .ok (.istore_n 3, 1) := by decide +kernel
theorem dX13_learn_28 : decode cX13_learn 28 = .ok (.aload_n 0, 1) := by decide +kernel
theorem dX13_learn_29 : decode cX13_learn 29 = .ok (.getfield 15, 3) := by decide +kernel
theorem dX13_learn_32 : decode cX13_learn 32 = .ok (.iload_n 3, 1) := by decide +kernel
theorem dX13_learn_33 : decode cX13_learn 33 = .ok (.iconst 3, 1) := by decide +kernel
theorem dX13_learn_34 : decode cX13_learn 34 = .ok (.iadd, 1) := by decide +kernel
theorem dX13_learn_35 : decode cX13_learn 35 = .ok (.iaload, 1) := by decide +kernel
theorem dX13_learn_36 : decode cX13_learn 36 = .ok (.iconst (-1), 1) := by decide +kernel
theorem dX13_learn_37 : decode cX13_learn 37 = .ok (.if_icmp .eq 65, 3) := by decide +kernel
theorem dX13_learn_40 : decode cX13_learn 40 = .ok (.aload_n 0, 1) := by decide +kernel
theorem dX13_learn_41 : decode cX13_learn 41 = .ok (.getfield 15, 3) := by decide +kernel
theorem dX13_learn_44 : decode cX13_learn 44 = .ok (.iload_n 3, 1) := by decide +kernel
theorem dX13_learn_45 : decode cX13_learn 45 = .ok (.iconst 4, 1) := by decide +kernel
theorem dX13_learn_46 : decode cX13_learn 46 = .ok (.iadd, 1) := by decide +kernel
theorem dX13_learn_47 : decode cX13_learn 47 = .ok (.iaload, 1) := by decide +kernel
theorem dX13_learn_48 : decode cX13_learn 48 = .ok (.iconst 1, 1) := by decide +kernel
theorem dX13_learn_49 : decode cX13_learn 49 = .ok (.if_icmp .ne 6, 3) := by decide +kernel
theorem dX13_learn_52 : decode cX13_learn 52 = .ok (.goto 50, 3) := by decide +kernel
theorem dX13_learn_55 : decode cX13_learn 55 = .ok (.aload_n 0, 1) := by decide +kernel
theorem dX13_learn_56 : decode cX13_learn 56 = .ok (.getfield 15, 3) := by decide +kernel
theorem dX13_learn_59 : decode cX13_learn 59 = .ok (.aload_n 0, 1) := by decide +kernel
theorem dX13_learn_60 : decode cX13_learn 60 = .ok (.getfield 15, 3) := by decide +kernel
theorem dX13_learn_63 : decode cX13_learn 63 = .ok (.iload_n 3, 1) := by decide +kernel
theorem dX13_learn_64 : decode cX13_learn 64 = .ok (.iconst 3, 1) := by decide +kernel
theorem dX13_learn_65 : decode cX13_learn 65 = .ok (.iadd, 1) := by decide +kernel
theorem dX13_learn_66 : decode cX13_learn 66 = .ok (.iaload, 1) := by decide +kernel
theorem dX13_learn_67 : decode cX13_learn 67 = .ok (.iconst 1, 1) := by decide +kernel
theorem dX13_learn_68 : decode cX13_learn 68 = .ok (.if_icmp .ne 9, 3) := by decide +kernel
theorem dX13_learn_71 : decode cX13_learn 71 = .ok (.sipush 1000, 3) := by decide +kernel
theorem dX13_learn_74 : decode cX13_learn 74 = .ok (.goto 4, 3) := by decide +kernel
theorem dX13_learn_77 : decode cX13_learn 77 = .ok (.iconst 0, 1) := by decide +kernel
theorem dX13_learn_78 : decode cX13_learn 78 = .ok (.aload_n 0, 1) := by decide +kernel
theorem dX13_learn_79 : decode cX13_learn 79 = .ok (.getfield 15, 3) := by decide +kernel
theorem dX13_learn_82 : decode cX13_learn 82 = .ok (.iload_n 3, 1) := by decide +kernel
theorem dX13_learn_83 : decode cX13_learn 83 = .ok (.iaload, 1) := by decide +kernel
theorem dX13_learn_84 : decode cX13_learn 84 = .ok (.iadd, 1) := by decide +kernel
theorem dX13_learn_85 : decode cX13_learn 85 = .ok (.dup2, 1) := by decide +kernel
theorem dX13_learn_86 : decode cX13_learn 86 = .ok (.iaload, 1) := by decide +kernel
theorem dX13_learn_87 : decode cX13_learn 87 = .ok (.iconst 1, 1) := by decide +kernel
theorem dX13_learn_88 : decode cX13_learn 88 = .ok (.iadd, 1) := by decide +kernel
theorem dX13_learn_89 : decode cX13_learn 89 = .ok (.iastore, 1) := by decide +kernel
theorem dX13_learn_90 : decode cX13_learn 90 = .ok (.aload_n 0, 1) := by decide +kernel
theorem dX13_learn_91 : decode cX13_learn 91 = .ok (.getfield 15, 3) := by decide +kernel
theorem dX13_learn_94 : decode cX13_learn 94 = .ok (.iload_n 3, 1) := by decide +kernel
theorem dX13_learn_95 : decode cX13_learn 95 = .ok (.iconst 4, 1) := by decide +kernel
theorem dX13_learn_96 : decode cX13_learn 96 = .ok (.iadd, 1) := by decide +kernel
theorem dX13_learn_97 : decode cX13_learn 97 = .ok (.iconst 1, 1) := by decide +kernel
theorem dX13_learn_98 : decode cX13_learn 98 = .ok (.iastore, 1) := by decide +kernel
theorem dX13_learn_99 : decode cX13_learn 99 = .ok (.iinc 1 1, 3) := by decide +kernel
theorem dX13_learn_102 : decode cX13_learn 102 = .ok (.iinc 2 1, 3) := by decide +kernel
theorem dX13_learn_105 : decode cX13_learn 105 = .ok (.goto (-97), 3) := by decide +kernel
theorem dX13_learn_108 : decode cX13_learn 108 = .ok (.aload_n 0, 1) := by decide +kernel
theorem dX13_learn_109 : decode cX13_learn 109 = .ok (.iload_n 1, 1) := by decide +kernel
theorem dX13_learn_110 : decode cX13_learn 110 = .ok (.invokevirtual 420, 3) := by decide +kernel
theorem dX13_learn_113 : decode cX13_learn 113 = .ok (.ireturn, 1) := by decide +kernel
theorem dX13_adds_0 : decode cX13_adds 0 = .ok (.iload_n 1, 1) := by decide +kernel
theorem dX13_adds_1 : decode cX13_adds 1 = .ok (.invokestatic 399, 3) := by decide +kernel
theorem dX13_adds_4 : decode cX13_adds 4 = .ok (.ifCond .eq 31, 3) := by decide +kernel
theorem dX13_adds_7 : decode cX13_adds 7 = .ok (.iload_n 2, 1) := by decide +kernel
theorem dX13_adds_8 : decode cX13_adds 8 = .ok (.i2l, 1) := by decide +kernel
theorem dX13_adds_9 : decode cX13_adds 9 = .ok (.ldc2_w 431, 3) := by decide +kernel
theorem dX13_adds_12 : decode cX13_adds 12 = .ok (.ldc2_w 402, 3) := by decide +kernel
theorem dX13_adds_15 : decode cX13_adds 15 = .ok (.invokestatic 86, 3) := by decide +kernel
theorem dX13_adds_18 : decode cX13_adds 18 = .ok (.ifCond .eq 17, 3) := by decide +kernel
theorem dX13_adds_21 : decode cX13_adds 21 = .ok (.iload_n 3, 1) := by decide +kernel
theorem dX13_adds_22 : decode cX13_adds 22 = .ok (.i2l, 1) := by decide +kernel
theorem dX13_adds_23 : decode cX13_adds 23 = .ok (.ldc2_w 431, 3) := by decide +kernel
theorem dX13_adds_26 : decode cX13_adds 26 = .ok (.ldc2_w 402, 3) := by decide +kernel
theorem dX13_adds_29 : decode cX13_adds 29 = .ok (.invokestatic 86, 3) := by decide +kernel
theorem dX13_adds_32 : decode cX13_adds 32 = .ok (.ifCond .ne 6, 3) := by decide +kernel
theorem dX13_adds_35 : decode cX13_adds 35 = .ok (.bipush (-2), 2) := by decide +kernel
theorem dX13_adds_37 : decode cX13_adds 37 = .ok (.ireturn, 1) := by decide +kernel
theorem dX13_adds_38 : decode cX13_adds 38 = .ok (.aload_n 0, 1) := by decide +kernel
theorem dX13_adds_39 : decode cX13_adds 39 = .ok (.invokevirtual 413, 3) := by decide +kernel
theorem dX13_adds_42 : decode cX13_adds 42 = .ok (.aload_n 0, 1) := by decide +kernel
theorem dX13_adds_43 : decode cX13_adds 43 = .ok (.getfield 15, 3) := by decide +kernel
theorem dX13_adds_46 : decode cX13_adds 46 = .ok (.iconst 0, 1) := by decide +kernel
theorem dX13_adds_47 : decode cX13_adds 47 = .ok (.iload_n 1, 1) := by decide +kernel
theorem dX13_adds_48 : decode cX13_adds 48 = .ok (.iadd, 1) := by decide +kernel
theorem dX13_adds_49 : decode cX13_adds 49 = .ok (.dup2, 1) := by decide +kernel
theorem dX13_adds_50 : decode cX13_adds 50 = .ok (.iaload, 1) := by decide +kernel
theorem dX13_adds_51 : decode cX13_adds 51 = .ok (.iload_n 2, 1) := by decide +kernel
theorem dX13_adds_52 : decode cX13_adds 52 = .ok (.iadd, 1) := by decide +kernel
theorem dX13_adds_53 : decode cX13_adds 53 = .ok (.iastore, 1) := by decide +kernel
theorem dX13_adds_54 : decode cX13_adds 54 = .ok (.aload_n 0, 1) := by decide +kernel
theorem dX13_adds_55 : decode cX13_adds 55 = .ok (.getfield 15, 3) := by decide +kernel
theorem dX13_adds_58 : decode cX13_adds 58 = .ok (.sipush 1000, 3) := by decide +kernel
theorem dX13_adds_61 : decode cX13_adds 61 = .ok (.iload_n 1, 1) := by decide +kernel
theorem dX13_adds_62 : decode cX13_adds 62 = .ok (.iadd, 1) := by decide +kernel
theorem dX13_adds_63 : decode cX13_adds 63 = .ok (.dup2, 1) := by decide +kernel
theorem dX13_adds_64 : decode cX13_adds 64 = .ok (.iaload, 1) := by decide +kernel
theorem dX13_adds_65 : decode cX13_adds 65 = .ok (.iload_n 3, 1) := by decide +kernel
theorem dX13_adds_66 : decode cX13_adds 66 = .ok (.iadd, 1) := by decide +kernel
theorem dX13_adds_67 : decode cX13_adds 67 = .ok (.iastore, 1) := by decide +kernel
theorem dX13_adds_68 : decode cX13_adds 68 = .ok (.aload_n 0, 1) := by decide +kernel
theorem dX13_adds_69 : decode cX13_adds 69 = .ok (.iload_n 2, 1) := by decide +kernel
theorem dX13_adds_70 : decode cX13_adds 70 = .ok (.ifCond .ne 7, 3) := by decide +kernel
theorem dX13_adds_73 : decode cX13_adds 73 = .ok (.iload_n 3, 1) := by decide +kernel
theorem dX13_adds_74 : decode cX13_adds 74 = .ok (.ifCond .eq 7, 3) := by decide +kernel
theorem dX13_adds_77 : decode cX13_adds 77 = .ok (.iconst 1, 1) := by decide +kernel
theorem dX13_adds_78 : decode cX13_adds 78 = .ok (.goto 4, 3) := by decide +kernel
theorem dX13_adds_81 : decode cX13_adds 81 = .ok (.iconst 0, 1) := by decide +kernel
theorem dX13_adds_82 : decode cX13_adds 82 = .ok (.invokevirtual 420, 3) := by decide +kernel
theorem dX13_adds_85 : decode cX13_adds 85 = .ok (.ireturn, 1) := by decide +kernel
theorem dX13_sets_0 : decode cX13_sets 0 = .ok (.iload_n 1, 1) := by decide +kernel
theorem dX13_sets_1 : decode cX13_sets 1 = .ok (.i2l, 1) := by decide +kernel
theorem dX13_sets_2 : decode cX13_sets 2 = .ok (.lconst 0, 1) := by decide +kernel
theorem dX13_sets_3 : decode cX13_sets 3 = .ok (.lconst 1, 1) := by decide +kernel
theorem dX13_sets_4 : decode cX13_sets 4 = .ok (.invokestatic 86, 3) := by decide +kernel
theorem dX13_sets_7 : decode cX13_sets 7 = .ok (.ifCond .eq 34, 3) := by decide +kernel
theorem dX13_sets_10 : decode cX13_sets 10 = .ok (.iload_n 1, 1) := by decide +kernel
theorem dX13_sets_11 : decode cX13_sets 11 = .ok (.ifCond .ne 18, 3) := by decide +kernel
theorem dX13_sets_14 : decode cX13_sets 14 = .ok (.iload_n 2, 1) := by decide +kernel
theorem dX13_sets_15 : decode cX13_sets 15 = .ok (.i2l, 1) := by decide +kernel
theorem dX13_sets_16 : decode cX13_sets 16 = .ok (.lconst 0, 1) := by decide +kernel
theorem dX13_sets_17 : decode cX13_sets 17 = .ok (.ldc2_w 433, 3) := by decide +kernel
theorem dX13_sets_20 : decode cX13_sets 20 = .ok (.invokestatic 86, 3) := by decide +kernel
theorem dX13_sets_23 : decode cX13_sets 23 = .ok (.ifCond .eq 18, 3) := by decide +kernel
theorem dX13_sets_26 : decode cX13_sets 26 = .ok (.goto 18, 3) := by decide +kernel
theorem dX13_sets_29 : decode cX13_sets 29 = .ok (.iload_n 2, 1) := by decide +kernel
theorem dX13_sets_30 : decode cX13_sets 30 = .ok (.i2l, 1) := by decide +kernel
theorem dX13_sets_31 : decode cX13_sets 31 = .ok (.lconst 1, 1) := by decide +kernel
theorem dX13_sets_32 : decode cX13_sets 32 = .ok (.ldc2_w 435, 3) := by decide +kernel
theorem dX13_sets_35 : decode cX13_sets 35 = .ok (.invokestatic 86, 3) := by decide +kernel
theorem dX13_sets_38 : decode cX13_sets 38 = .ok (.ifCond .ne 6, 3) := by decide +kernel
theorem dX13_sets_41 : decode cX13_sets 41 = .ok (.bipush (-2), 2) := by decide +kernel
theorem dX13_sets_43 : decode cX13_sets 43 = .ok (.ireturn, 1) := by decide +kernel
theorem dX13_sets_44 : decode cX13_sets 44 = .ok (.aload_n 0, 1) := by decide +kernel
theorem dX13_sets_45 : decode cX13_sets 45 = .ok (.invokevirtual 413, 3) := by decide +kernel
theorem dX13_sets_48 : decode cX13_sets 48 = .ok (.aload_n 0, 1) := by decide +kernel
theorem dX13_sets_49 : decode cX13_sets 49 = .ok (.getfield 15, 3) := by decide +kernel
theorem dX13_sets_52 : decode cX13_sets 52 = .ok (.sipush 3201, 3) := by decide +kernel
theorem dX13_sets_55 : decode cX13_sets 55 = .ok (.iload_n 1, 1) := by decide +kernel
theorem dX13_sets_56 : decode cX13_sets 56 = .ok (.iadd, 1) := by decide +kernel
theorem dX13_sets_57 : decode cX13_sets 57 = .ok (.iaload, 1) := by decide +kernel
theorem dX13_sets_58 : decode cX13_sets 58 = .ok (.istore_n 3, 1) := by decide +kernel
theorem dX13_sets_59 : decode cX13_sets 59 = .ok (.aload_n 0, 1) := by decide +kernel
theorem dX13_sets_60 : decode cX13_sets 60 = .ok (.getfield 15, 3) := by decide +kernel
theorem dX13_sets_63 : decode cX13_sets 63 = .ok (.sipush 3201, 3) := by decide +kernel
theorem dX13_sets_66 : decode cX13_sets 66 = .ok (.iload_n 1, 1) := by decide +kernel
theorem dX13_sets_67 : decode cX13_sets 67 = .ok (.iadd, 1) := by decide +kernel
theorem dX13_sets_68 : decode cX13_sets 68 = .ok (.iload_n 2, 1) := by decide +kernel
theorem dX13_sets_69 : decode cX13_sets 69 = .ok (.iastore, 1) := by decide +kernel
theorem dX13_sets_70 : decode cX13_sets 70 = .ok (.aload_n 0, 1) := by decide +kernel
theorem dX13_sets_71 : decode cX13_sets 71 = .ok (.invokevirtual 410, 3) := by decide +kernel
theorem dX13_sets_74 : decode cX13_sets 74 = .ok (.pop, 1) := by decide +kernel
theorem dX13_sets_75 : decode cX13_sets 75 = .ok (.iload_n 3, 1) := by decide +kernel
theorem dX13_sets_76 : decode cX13_sets 76 = .ok (.ireturn, 1) := by decide +kernel
theorem dX13_costs_0 : decode cX13_costs 0 = .ok (.iload_n 1, 1) := by decide +kernel
theorem dX13_costs_1 : decode cX13_costs 1 = .ok (.i2l, 1) := by decide +kernel
theorem dX13_costs_2 : decode cX13_costs 2 = .ok (.lconst 0, 1) := by decide +kernel
theorem dX13_costs_3 : decode cX13_costs 3 = .ok (.ldc2_w 149, 3) := by decide +kernel
theorem dX13_costs_6 : decode cX13_costs 6 = .ok (.invokestatic 86, 3) := by decide +kernel
theorem dX13_costs_9 : decode cX13_costs 9 = .ok (.ifCond .eq 27, 3) := by decide +kernel
theorem dX13_costs_12 : decode cX13_costs 12 = .ok (.iload_n 2, 1) := by decide +kernel
theorem dX13_costs_13 : decode cX13_costs 13 = .ok (.i2l, 1) := by decide +kernel
theorem dX13_costs_14 : decode cX13_costs 14 = .ok (.lconst 0, 1) := by decide +kernel
theorem dX13_costs_15 : decode cX13_costs 15 = .ok (.ldc2_w 149, 3) := by decide +kernel
theorem dX13_costs_18 : decode cX13_costs 18 = .ok (.invokestatic 86, 3) := by decide +kernel
theorem dX13_costs_21 : decode cX13_costs 21 = .ok (.ifCond .eq 15, 3) := by decide +kernel
theorem dX13_costs_24 : decode cX13_costs 24 = .ok (.iload_n 3, 1) := by decide +kernel
theorem dX13_costs_25 : decode cX13_costs 25 = .ok (.i2l, 1) := by decide +kernel
theorem dX13_costs_26 : decode cX13_costs 26 = .ok (.lconst 0, 1) := by decide +kernel
theorem dX13_costs_27 : decode cX13_costs 27 = .ok (.ldc2_w 149, 3) := by decide +kernel
theorem dX13_costs_30 : decode cX13_costs 30 = .ok (.invokestatic 86, 3) := by decide +kernel
theorem dX13_costs_33 : decode cX13_costs 33 = .ok (.ifCond .ne 6, 3) := by decide +kernel
theorem dX13_costs_36 : decode cX13_costs 36 = .ok (.bipush (-2), 2) := by decide +kernel
theorem dX13_costs_38 : decode cX13_costs 38 = .ok (.ireturn, 1) := by decide +kernel
theorem dX13_costs_39 : decode cX13_costs 39 = .ok (.aload_n 0, 1) := by decide +kernel
theorem dX13_costs_40 : decode cX13_costs 40 = .ok (.invokevirtual 413, 3) := by decide +kernel
theorem dX13_costs_43 : decode cX13_costs 43 = .ok (.aload_n 0, 1) := by decide +kernel
theorem dX13_costs_44 : decode cX13_costs 44 = .ok (.getfield 15, 3) := by decide +kernel
theorem dX13_costs_47 : decode cX13_costs 47 = .ok (.sipush 3203, 3) := by decide +kernel
theorem dX13_costs_50 : decode cX13_costs 50 = .ok (.iload_n 1, 1) := by decide +kernel
theorem dX13_costs_51 : decode cX13_costs 51 = .ok (.iastore, 1) := by decide +kernel
theorem dX13_costs_52 : decode cX13_costs 52 = .ok (.aload_n 0, 1) := by decide +kernel
theorem dX13_costs_53 : decode cX13_costs 53 = .ok (.getfield 15, 3) := by decide +kernel
theorem dX13_costs_56 : decode cX13_costs 56 = .ok (.sipush 3204, 3) := by decide +kernel
theorem dX13_costs_59 : decode cX13_costs 59 = .ok (.iload_n 2, 1) := by decide +kernel
theorem dX13_costs_60 : decode cX13_costs 60 = .ok (.iastore, 1) := by decide +kernel
theorem dX13_costs_61 : decode cX13_costs 61 = .ok (.aload_n 0, 1) := by decide +kernel
theorem dX13_costs_62 : decode cX13_costs 62 = .ok (.getfield 15, 3) := by decide +kernel
theorem dX13_costs_65 : decode cX13_costs 65 = .ok (.sipush 3205, 3) := by decide +kernel
theorem dX13_costs_68 : decode cX13_costs 68 = .ok (.iload_n 3, 1) := by decide +kernel
theorem dX13_costs_69 : decode cX13_costs 69 = .ok (.iastore, 1) := by decide +kernel
theorem dX13_costs_70 : decode cX13_costs 70 = .ok (.aload_n 0, 1) := by decide +kernel
theorem dX13_costs_71 : decode cX13_costs 71 = .ok (.invokevirtual 410, 3) := by decide +kernel
theorem dX13_costs_74 : decode cX13_costs 74 = .ok (.ifCond .eq 7, 3) := by decide +kernel
theorem dX13_costs_77 : decode cX13_costs 77 = .ok (.iconst 1, 1) := by decide +kernel
theorem dX13_costs_78 : decode cX13_costs 78 = .ok (.goto 4, 3) := by decide +kernel
theorem dX13_costs_81 : decode cX13_costs 81 = .ok (.iconst 0, 1) := by decide +kernel
theorem dX13_costs_82 : decode cX13_costs 82 = .ok (.ireturn, 1) := by decide +kernel
theorem dJxe99ae_isNaN_b9ae7_0 : decode cJxe99ae_isNaN_b9ae7 0 = .ok (.dload_n 0, 1) := by decide +kernel
theorem dJxe99ae_isNaN_b9ae7_1 : decode cJxe99ae_isNaN_b9ae7 1 = .ok (.dload_n 0, 1) := by decide +kernel
theorem dJxe99ae_isNaN_b9ae7_2 : decode cJxe99ae_isNaN_b9ae7 2 = .ok (.dcmp .l, 1) := by decide +kernel
theorem dJxe99ae_isNaN_b9ae7_3 : decode cJxe99ae_isNaN_b9ae7 3 = .ok (.ifCond .eq 7, 3) := by decide +kernel
theorem dJxe99ae_isNaN_b9ae7_6 : decode cJxe99ae_isNaN_b9ae7 6 = .ok (.iconst 1, 1) := by decide +kernel
theorem dJxe99ae_isNaN_b9ae7_7 : decode cJxe99ae_isNaN_b9ae7 7 = .ok (.goto 4, 3) := by decide +kernel
theorem dJxe99ae_isNaN_b9ae7_10 : decode cJxe99ae_isNaN_b9ae7 10 = .ok (.iconst 0, 1) := by decide +kernel
theorem dJxe99ae_isNaN_b9ae7_11 : decode cJxe99ae_isNaN_b9ae7 11 = .ok (.ireturn, 1) := by decide +kernel
theorem dJxe99ae_doubleToLongBits_ccdee_0 : decode cJxe99ae_doubleToLongBits_ccdee 0 = .ok (.dload_n 0, 1) := by decide +kernel
theorem dJxe99ae_doubleToLongBits_ccdee_1 : decode cJxe99ae_doubleToLongBits_ccdee 1 = .ok (.invokestatic 122, 3) := by decide +kernel
theorem dJxe99ae_doubleToLongBits_ccdee_4 : decode cJxe99ae_doubleToLongBits_ccdee 4 = .ok (.ifCond .ne 8, 3) := by decide +kernel
theorem dJxe99ae_doubleToLongBits_ccdee_7 : decode cJxe99ae_doubleToLongBits_ccdee 7 = .ok (.dload_n 0, 1) := by decide +kernel
theorem dJxe99ae_doubleToLongBits_ccdee_8 : decode cJxe99ae_doubleToLongBits_ccdee 8 = .ok (.invokestatic 134, 3) := by decide +kernel
theorem dJxe99ae_doubleToLongBits_ccdee_11 : decode cJxe99ae_doubleToLongBits_ccdee 11 = .ok (.lreturn, 1) := by decide +kernel
theorem dJxe99ae_doubleToLongBits_ccdee_12 : decode cJxe99ae_doubleToLongBits_ccdee 12 = .ok (.ldc2_w 137, 3) := by decide +kernel
theorem dJxe99ae_doubleToLongBits_ccdee_15 : decode cJxe99ae_doubleToLongBits_ccdee 15 = .ok (.lreturn, 1) := by decide +kernel
theorem dJxf58ca_isNaN_12338_0 : decode cJxf58ca_isNaN_12338 0 = .ok (.fload_n 0, 1) := by decide +kernel
theorem dJxf58ca_isNaN_12338_1 : decode cJxf58ca_isNaN_12338 1 = .ok (.fload_n 0, 1) := by decide +kernel
theorem dJxf58ca_isNaN_12338_2 : decode cJxf58ca_isNaN_12338 2 = .ok (.fcmp .l, 1) := by decide +kernel
theorem dJxf58ca_isNaN_12338_3 : decode cJxf58ca_isNaN_12338 3 = .ok (.ifCond .eq 7, 3) := by decide +kernel
theorem dJxf58ca_isNaN_12338_6 : decode cJxf58ca_isNaN_12338 6 = .ok (.iconst 1, 1) := by decide +kernel
theorem dJxf58ca_isNaN_12338_7 : decode cJxf58ca_isNaN_12338 7 = .ok (.goto 4, 3) := by decide +kernel
theorem dJxf58ca_isNaN_12338_10 : decode cJxf58ca_isNaN_12338 10 = .ok (.iconst 0, 1) := by decide +kernel
theorem dJxf58ca_isNaN_12338_11 : decode cJxf58ca_isNaN_12338 11 = .ok (.ireturn, 1) := by decide +kernel
theorem dJxf58ca_floatToIntBits_5c35a_0 : decode cJxf58ca_floatToIntBits_5c35a 0 = .ok (.fload_n 0, 1) := by decide +kernel
theorem dJxf58ca_floatToIntBits_5c35a_1 : decode cJxf58ca_floatToIntBits_5c35a 1 = .ok (.invokestatic 59, 3) := by decide +kernel
theorem dJxf58ca_floatToIntBits_5c35a_4 : decode cJxf58ca_floatToIntBits_5c35a 4 = .ok (.ifCond .ne 8, 3) := by decide +kernel
theorem dJxf58ca_floatToIntBits_5c35a_7 : decode cJxf58ca_floatToIntBits_5c35a 7 = .ok (.fload_n 0, 1) := by decide +kernel
theorem dJxf58ca_floatToIntBits_5c35a_8 : decode cJxf58ca_floatToIntBits_5c35a 8 = .ok (.invokestatic 74, 3) := by decide +kernel
theorem dJxf58ca_floatToIntBits_5c35a_11 : decode cJxf58ca_floatToIntBits_5c35a 11 = .ok (.ireturn, 1) := by decide +kernel
theorem dJxf58ca_floatToIntBits_5c35a_12 : decode cJxf58ca_floatToIntBits_5c35a 12 = .ok (.ldc 77, 2) := by decide +kernel
theorem dJxf58ca_floatToIntBits_5c35a_14 : decode cJxf58ca_floatToIntBits_5c35a 14 = .ok (.ireturn, 1) := by decide +kernel
theorem dJ13_compare_74951_0 : decode cJ13_compare_74951 0 = .ok (.lload_n 0, 1) := by decide +kernel
theorem dJ13_compare_74951_1 : decode cJ13_compare_74951 1 = .ok (.lload_n 2, 1) := by decide +kernel
theorem dJ13_compare_74951_2 : decode cJ13_compare_74951 2 = .ok (.lcmp, 1) := by decide +kernel
theorem dJ13_compare_74951_3 : decode cJ13_compare_74951 3 = .ok (.ifCond .ge 7, 3) := by decide +kernel
theorem dJ13_compare_74951_6 : decode cJ13_compare_74951 6 = .ok (.iconst (-1), 1) := by decide +kernel
theorem dJ13_compare_74951_7 : decode cJ13_compare_74951 7 = .ok (.goto 14, 3) := by decide +kernel
theorem dJ13_compare_74951_10 : decode cJ13_compare_74951 10 = .ok (.lload_n 0, 1) := by decide +kernel
theorem dJ13_compare_74951_11 : decode cJ13_compare_74951 11 = .ok (.lload_n 2, 1) := by decide +kernel
theorem dJ13_compare_74951_12 : decode cJ13_compare_74951 12 = .ok (.lcmp, 1) := by decide +kernel
theorem dJ13_compare_74951_13 : decode cJ13_compare_74951 13 = .ok (.ifCond .ne 7, 3) := by decide +kernel
theorem dJ13_compare_74951_16 : decode cJ13_compare_74951 16 = .ok (.iconst 0, 1) := by decide +kernel
theorem dJ13_compare_74951_17 : decode cJ13_compare_74951 17 = .ok (.goto 4, 3) := by decide +kernel
theorem dJ13_compare_74951_20 : decode cJ13_compare_74951 20 = .ok (.iconst 1, 1) := by decide +kernel
theorem dJ13_compare_74951_21 : decode cJ13_compare_74951 21 = .ok (.ireturn, 1) := by decide +kernel
theorem dJ13_compareUnsigned_74951_0 : decode cJ13_compareUnsigned_74951 0 = .ok (.lload_n 0, 1) := by decide +kernel
theorem dJ13_compareUnsigned_74951_1 : decode cJ13_compareUnsigned_74951 1 = .ok (.ldc2_w 168, 3) := by decide +kernel
theorem dJ13_compareUnsigned_74951_4 : decode cJ13_compareUnsigned_74951 4 = .ok (.ladd, 1) := by decide +kernel
theorem dJ13_compareUnsigned_74951_5 : decode cJ13_compareUnsigned_74951 5 = .ok (.lload_n 2, 1) := by decide +kernel
theorem dJ13_compareUnsigned_74951_6 : decode cJ13_compareUnsigned_74951 6 = .ok (.ldc2_w 168, 3) := by decide +kernel
theorem dJ13_compareUnsigned_74951_9 : decode cJ13_compareUnsigned_74951 9 = .ok (.ladd, 1) := by decide +kernel
theorem dJ13_compareUnsigned_74951_10 : decode cJ13_compareUnsigned_74951 10 = .ok (.invokestatic 302, 3) := by decide +kernel
theorem dJ13_compareUnsigned_74951_13 : decode cJ13_compareUnsigned_74951 13 = .ok (.ireturn, 1) := by decide +kernel
theorem dJ9_multiplyHigh_f86c9_0 : decode cJ9_multiplyHigh_f86c9 0 = .ok (.lload_n 0, 1) := by decide +kernel
theorem dJ9_multiplyHigh_f86c9_1 : decode cJ9_multiplyHigh_f86c9 1 = .ok (.bipush 32, 2) := by decide +kernel
theorem dJ9_multiplyHigh_f86c9_3 : decode cJ9_multiplyHigh_f86c9 3 = .ok (.lshr, 1) := by decide +kernel
theorem dJ9_multiplyHigh_f86c9_4 : decode cJ9_multiplyHigh_f86c9 4 = .ok (.lstore 4, 2) := by decide +kernel
theorem dJ9_multiplyHigh_f86c9_6 : decode cJ9_multiplyHigh_f86c9 6 = .ok (.lload_n 0, 1) := by decide +kernel
theorem dJ9_multiplyHigh_f86c9_7 : decode cJ9_multiplyHigh_f86c9 7 = .ok (.ldc2_w 138, 3) := by decide +kernel
theorem dJ9_multiplyHigh_f86c9_10 : decode cJ9_multiplyHigh_f86c9 10 = .ok (.land, 1) := by decide +kernel
theorem dJ9_multiplyHigh_f86c9_11 : decode cJ9_multiplyHigh_f86c9 11 = .ok (.lstore 6, 2) := by decide +kernel
theorem dJ9_multiplyHigh_f86c9_13 : decode cJ9_multiplyHigh_f86c9 13 = .ok (.lload_n 2, 1) := by decide +kernel
theorem dJ9_multiplyHigh_f86c9_14 : decode cJ9_multiplyHigh_f86c9 14 = .ok (.bipush 32, 2) := by decide +kernel
theorem dJ9_multiplyHigh_f86c9_16 : decode cJ9_multiplyHigh_f86c9 16 = .ok (.lshr, 1) := by decide +kernel
theorem dJ9_multiplyHigh_f86c9_17 : decode cJ9_multiplyHigh_f86c9 17 = .ok (.lstore 8, 2) := by decide +kernel
theorem dJ9_multiplyHigh_f86c9_19 : decode cJ9_multiplyHigh_f86c9 19 = .ok (.lload_n 2, 1) := by decide +kernel
theorem dJ9_multiplyHigh_f86c9_20 : decode cJ9_multiplyHigh_f86c9 20 = .ok (.ldc2_w 138, 3) := by decide +kernel
theorem dJ9_multiplyHigh_f86c9_23 : decode cJ9_multiplyHigh_f86c9 23 = .ok (.land, 1) := by decide +kernel
theorem dJ9_multiplyHigh_f86c9_24 : decode cJ9_multiplyHigh_f86c9 24 = .ok (.lstore 10, 2) := by decide +kernel
theorem dJ9_multiplyHigh_f86c9_26 : decode cJ9_multiplyHigh_f86c9 26 = .ok (.lload 6, 2) := by decide +kernel
theorem dJ9_multiplyHigh_f86c9_28 : decode cJ9_multiplyHigh_f86c9 28 = .ok (.lload 10, 2) := by decide +kernel
theorem dJ9_multiplyHigh_f86c9_30 : decode cJ9_multiplyHigh_f86c9 30 = .ok (.lmul, 1) := by decide +kernel
theorem dJ9_multiplyHigh_f86c9_31 : decode cJ9_multiplyHigh_f86c9 31 = .ok (.lstore 12, 2) := by decide +kernel
theorem dJ9_multiplyHigh_f86c9_33 : decode cJ9_multiplyHigh_f86c9 33 = .ok (.lload 4, 2) := by decide +kernel
theorem dJ9_multiplyHigh_f86c9_35 : decode cJ9_multiplyHigh_f86c9 35 = .ok (.lload 10, 2) := by decide +kernel
theorem dJ9_multiplyHigh_f86c9_37 : decode cJ9_multiplyHigh_f86c9 37 = .ok (.lmul, 1) := by decide +kernel
theorem dJ9_multiplyHigh_f86c9_38 : decode cJ9_multiplyHigh_f86c9 38 = .ok (.lload 12, 2) := by decide +kernel
theorem dJ9_multiplyHigh_f86c9_40 : decode cJ9_multiplyHigh_f86c9 40 = .ok (.bipush 32, 2) := by decide +kernel
theorem dJ9_multiplyHigh_f86c9_42 : decode cJ9_multiplyHigh_f86c9 42 = .ok (.lushr, 1) := by decide +kernel
theorem dJ9_multiplyHigh_f86c9_43 : decode cJ9_multiplyHigh_f86c9 43 = .ok (.ladd, 1) := by decide +kernel
theorem dJ9_multiplyHigh_f86c9_44 : decode cJ9_multiplyHigh_f86c9 44 = .ok (.lstore 14, 2) := by decide +kernel
theorem dJ9_multiplyHigh_f86c9_46 : decode cJ9_multiplyHigh_f86c9 46 = .ok (.lload 14, 2) := by decide +kernel
theorem dJ9_multiplyHigh_f86c9_48 : decode cJ9_multiplyHigh_f86c9 48 = .ok (.ldc2_w 138, 3) := by decide +kernel
theorem dJ9_multiplyHigh_f86c9_51 : decode cJ9_multiplyHigh_f86c9 51 = .ok (.land, 1) := by decide +kernel
theorem dJ9_multiplyHigh_f86c9_52 : decode cJ9_multiplyHigh_f86c9 52 = .ok (.lstore 16, 2) := by decide +kernel
theorem dJ9_multiplyHigh_f86c9_54 : decode cJ9_multiplyHigh_f86c9 54 = .ok (.lload 14, 2) := by decide +kernel
theorem dJ9_multiplyHigh_f86c9_56 : decode cJ9_multiplyHigh_f86c9 56 = .ok (.bipush 32, 2) := by decide +kernel
theorem dJ9_multiplyHigh_f86c9_58 : decode cJ9_multiplyHigh_f86c9 58 = .ok (.lshr, 1) := by decide +kernel
theorem dJ9_multiplyHigh_f86c9_59 : decode cJ9_multiplyHigh_f86c9 59 = .ok (.lstore 18, 2) := by decide +kernel
theorem dJ9_multiplyHigh_f86c9_61 : decode cJ9_multiplyHigh_f86c9 61 = .ok (.lload 16, 2) := by decide +kernel
theorem dJ9_multiplyHigh_f86c9_63 : decode cJ9_multiplyHigh_f86c9 63 = .ok (.lload 6, 2) := by decide +kernel
theorem dJ9_multiplyHigh_f86c9_65 : decode cJ9_multiplyHigh_f86c9 65 = .ok (.lload 8, 2) := by decide +kernel
theorem dJ9_multiplyHigh_f86c9_67 : decode cJ9_multiplyHigh_f86c9 67 = .ok (.lmul, 1) := by decide +kernel
theorem dJ9_multiplyHigh_f86c9_68 : decode cJ9_multiplyHigh_f86c9 68 = .ok (.ladd, 1) := by decide +kernel
theorem dJ9_multiplyHigh_f86c9_69 : decode cJ9_multiplyHigh_f86c9 69 = .ok (.lstore 16, 2) := by decide +kernel
theorem dJ9_multiplyHigh_f86c9_71 : decode cJ9_multiplyHigh_f86c9 71 = .ok (.lload 4, 2) := by decide +kernel
theorem dJ9_multiplyHigh_f86c9_73 : decode cJ9_multiplyHigh_f86c9 73 = .ok (.lload 8, 2) := by decide +kernel
theorem dJ9_multiplyHigh_f86c9_75 : decode cJ9_multiplyHigh_f86c9 75 = .ok (.lmul, 1) := by decide +kernel
theorem dJ9_multiplyHigh_f86c9_76 : decode cJ9_multiplyHigh_f86c9 76 = .ok (.lload 18, 2) := by decide +kernel
theorem dJ9_multiplyHigh_f86c9_78 : decode cJ9_multiplyHigh_f86c9 78 = .ok (.ladd, 1) := by decide +kernel
theorem dJ9_multiplyHigh_f86c9_79 : decode cJ9_multiplyHigh_f86c9 79 = .ok (.lload 16, 2) := by decide +kernel
theorem dJ9_multiplyHigh_f86c9_81 : decode cJ9_multiplyHigh_f86c9 81 = .ok (.bipush 32, 2) := by decide +kernel
theorem dJ9_multiplyHigh_f86c9_83 : decode cJ9_multiplyHigh_f86c9 83 = .ok (.lshr, 1) := by decide +kernel
theorem dJ9_multiplyHigh_f86c9_84 : decode cJ9_multiplyHigh_f86c9 84 = .ok (.ladd, 1) := by decide +kernel
theorem dJ9_multiplyHigh_f86c9_85 : decode cJ9_multiplyHigh_f86c9 85 = .ok (.lreturn, 1) := by decide +kernel
theorem dJ9_abs_067f4_0 : decode cJ9_abs_067f4 0 = .ok (.lload_n 0, 1) := by decide +kernel
theorem dJ9_abs_067f4_1 : decode cJ9_abs_067f4 1 = .ok (.lconst 0, 1) := by decide +kernel
theorem dJ9_abs_067f4_2 : decode cJ9_abs_067f4 2 = .ok (.lcmp, 1) := by decide +kernel
theorem dJ9_abs_067f4_3 : decode cJ9_abs_067f4 3 = .ok (.ifCond .ge 8, 3) := by decide +kernel
theorem dJ9_abs_067f4_6 : decode cJ9_abs_067f4 6 = .ok (.lload_n 0, 1) := by decide +kernel
theorem dJ9_abs_067f4_7 : decode cJ9_abs_067f4 7 = .ok (.lneg, 1) := by decide +kernel
theorem dJ9_abs_067f4_8 : decode cJ9_abs_067f4 8 = .ok (.goto 4, 3) := by decide +kernel
theorem dJ9_abs_067f4_11 : decode cJ9_abs_067f4 11 = .ok (.lload_n 0, 1) := by decide +kernel
theorem dJ9_abs_067f4_12 : decode cJ9_abs_067f4 12 = .ok (.lreturn, 1) := by decide +kernel
theorem dJ9_max_7cf53_0 : decode cJ9_max_7cf53 0 = .ok (.iload_n 0, 1) := by decide +kernel
theorem dJ9_max_7cf53_1 : decode cJ9_max_7cf53 1 = .ok (.iload_n 1, 1) := by decide +kernel
theorem dJ9_max_7cf53_2 : decode cJ9_max_7cf53 2 = .ok (.if_icmp .lt 7, 3) := by decide +kernel
theorem dJ9_max_7cf53_5 : decode cJ9_max_7cf53 5 = .ok (.iload_n 0, 1) := by decide +kernel
theorem dJ9_max_7cf53_6 : decode cJ9_max_7cf53 6 = .ok (.goto 4, 3) := by decide +kernel
theorem dJ9_max_7cf53_9 : decode cJ9_max_7cf53 9 = .ok (.iload_n 1, 1) := by decide +kernel
theorem dJ9_max_7cf53_10 : decode cJ9_max_7cf53 10 = .ok (.ireturn, 1) := by decide +kernel
theorem dJ9_max_f86c9_0 : decode cJ9_max_f86c9 0 = .ok (.lload_n 0, 1) := by decide +kernel
theorem dJ9_max_f86c9_1 : decode cJ9_max_f86c9 1 = .ok (.lload_n 2, 1) := by decide +kernel
theorem dJ9_max_f86c9_2 : decode cJ9_max_f86c9 2 = .ok (.lcmp, 1) := by decide +kernel
theorem dJ9_max_f86c9_3 : decode cJ9_max_f86c9 3 = .ok (.ifCond .lt 7, 3) := by decide +kernel
theorem dJ9_max_f86c9_6 : decode cJ9_max_f86c9 6 = .ok (.lload_n 0, 1) := by decide +kernel
theorem dJ9_max_f86c9_7 : decode cJ9_max_f86c9 7 = .ok (.goto 4, 3) := by decide +kernel
theorem dJ9_max_f86c9_10 : decode cJ9_max_f86c9 10 = .ok (.lload_n 2, 1) := by decide +kernel
theorem dJ9_max_f86c9_11 : decode cJ9_max_f86c9 11 = .ok (.lreturn, 1) := by decide +kernel
theorem dJ9_min_7cf53_0 : decode cJ9_min_7cf53 0 = .ok (.iload_n 0, 1) := by decide +kernel
theorem dJ9_min_7cf53_1 : decode cJ9_min_7cf53 1 = .ok (.iload_n 1, 1) := by decide +kernel
theorem dJ9_min_7cf53_2 : decode cJ9_min_7cf53 2 = .ok (.if_icmp .gt 7, 3) := by decide +kernel
theorem dJ9_min_7cf53_5 : decode cJ9_min_7cf53 5 = .ok (.iload_n 0, 1) := by decide +kernel
theorem dJ9_min_7cf53_6 : decode cJ9_min_7cf53 6 = .ok (.goto 4, 3) := by decide +kernel
theorem dJ9_min_7cf53_9 : decode cJ9_min_7cf53 9 = .ok (.iload_n 1, 1) := by decide +kernel
theorem dJ9_min_7cf53_10 : decode cJ9_min_7cf53 10 = .ok (.ireturn, 1) := by decide +kernel
theorem dJ9_min_f86c9_0 : decode cJ9_min_f86c9 0 = .ok (.lload_n 0, 1) := by decide +kernel
theorem dJ9_min_f86c9_1 : decode cJ9_min_f86c9 1 = .ok (.lload_n 2, 1) := by decide +kernel
theorem dJ9_min_f86c9_2 : decode cJ9_min_f86c9 2 = .ok (.lcmp, 1) := by decide +kernel
theorem dJ9_min_f86c9_3 : decode cJ9_min_f86c9 3 = .ok (.ifCond .gt 7, 3) := by decide +kernel
theorem dJ9_min_f86c9_6 : decode cJ9_min_f86c9 6 = .ok (.lload_n 0, 1) := by decide +kernel
theorem dJ9_min_f86c9_7 : decode cJ9_min_f86c9 7 = .ok (.goto 4, 3) := by decide +kernel
theorem dJ9_min_f86c9_10 : decode cJ9_min_f86c9 10 = .ok (.lload_n 2, 1) := by decide +kernel
theorem dJ9_min_f86c9_11 : decode cJ9_min_f86c9 11 = .ok (.lreturn, 1) := by decide +kernel
theorem dJ2_getChar_3b067_0 : decode cJ2_getChar_3b067 0 = .ok (.getstatic 44, 3) := by decide +kernel
theorem dJ2_getChar_3b067_3 : decode cJ2_getChar_3b067 3 = .ok (.ifCond .ne 25, 3) := by decide +kernel
theorem dJ2_getChar_3b067_6 : decode cJ2_getChar_3b067 6 = .ok (.iload_n 1, 1) := by decide +kernel
theorem dJ2_getChar_3b067_7 : decode cJ2_getChar_3b067 7 = .ok (.ifCond .lt 11, 3) := by decide +kernel
theorem dJ2_getChar_3b067_10 : decode cJ2_getChar_3b067 10 = .ok (.iload_n 1, 1) := by decide +kernel
theorem dJ2_getChar_3b067_11 : decode cJ2_getChar_3b067 11 = .ok (.aload_n 0, 1) := by decide +kernel
theorem dJ2_getChar_3b067_12 : decode cJ2_getChar_3b067 12 = .ok (.invokestatic 48, 3) := by decide +kernel
theorem dJ2_getChar_3b067_15 : decode cJ2_getChar_3b067 15 = .ok (.if_icmp .lt 13, 3) := by decide +kernel
theorem dJ2_getChar_3b067_18 : decode cJ2_getChar_3b067 18 = .ok (.new 52, 3) := by decide +kernel
theorem dJ2_getChar_3b067_21 : decode cJ2_getChar_3b067 21 = .ok (.dup, 1) := by decide +kernel
theorem dJ2_getChar_3b067_22 : decode cJ2_getChar_3b067 22 = .ok (.ldc 54, 2) := by decide +kernel
theorem dJ2_getChar_3b067_24 : decode cJ2_getChar_3b067 24 = .ok (.invokespecial 56, 3) := by decide +kernel
theorem dJ2_getChar_3b067_27 : decode cJ2_getChar_3b067 27 = .ok (.athrow, 1) := by decide +kernel
theorem dJ2_getChar_3b067_28 : decode cJ2_getChar_3b067 28 = .ok (.iload_n 1, 1) := by decide +kernel
theorem dJ2_getChar_3b067_29 : decode cJ2_getChar_3b067 29 = .ok (.iconst 1, 1) := by decide +kernel
theorem dJ2_getChar_3b067_30 : decode cJ2_getChar_3b067 30 = .ok (.ishl, 1) := by decide +kernel
theorem dJ2_getChar_3b067_31 : decode cJ2_getChar_3b067 31 = .ok (.istore_n 1, 1) := by decide +kernel
theorem dJ2_getChar_3b067_32 : decode cJ2_getChar_3b067 32 = .ok (.aload_n 0, 1) := by decide +kernel
theorem dJ2_getChar_3b067_33 : decode cJ2_getChar_3b067 33 = .ok (.iload_n 1, 1) := by decide +kernel
theorem dJ2_getChar_3b067_34 : decode cJ2_getChar_3b067 34 = .ok (.iinc 1 1, 3) := by decide +kernel
theorem dJ2_getChar_3b067_37 : decode cJ2_getChar_3b067 37 = .ok (.baload, 1) := by decide +kernel
theorem dJ2_getChar_3b067_38 : decode cJ2_getChar_3b067 38 = .ok (.sipush 255, 3) := by decide +kernel
theorem dJ2_getChar_3b067_41 : decode cJ2_getChar_3b067 41 = .ok (.iand, 1) := by decide +kernel
theorem dJ2_getChar_3b067_42 : decode cJ2_getChar_3b067 42 = .ok (.getstatic 59, 3) := by decide +kernel
theorem dJ2_getChar_3b067_45 : decode cJ2_getChar_3b067 45 = .ok (.ishl, 1) := by decide +kernel
theorem dJ2_getChar_3b067_46 : decode cJ2_getChar_3b067 46 = .ok (.aload_n 0, 1) := by decide +kernel
theorem dJ2_getChar_3b067_47 : decode cJ2_getChar_3b067 47 = .ok (.iload_n 1, 1) := by decide +kernel
theorem dJ2_getChar_3b067_48 : decode cJ2_getChar_3b067 48 = .ok (.baload, 1) := by decide +kernel
theorem dJ2_getChar_3b067_49 : decode cJ2_getChar_3b067 49 = .ok (.sipush 255, 3) := by decide +kernel
theorem dJ2_getChar_3b067_52 : decode cJ2_getChar_3b067 52 = .ok (.iand, 1) := by decide +kernel
theorem dJ2_getChar_3b067_53 : decode cJ2_getChar_3b067 53 = .ok (.getstatic 63, 3) := by decide +kernel
theorem dJ2_getChar_3b067_56 : decode cJ2_getChar_3b067 56 = .ok (.ishl, 1) := by decide +kernel
theorem dJ2_getChar_3b067_57 : decode cJ2_getChar_3b067 57 = .ok (.ior, 1) := by decide +kernel
theorem dJ2_getChar_3b067_58 : decode cJ2_getChar_3b067 58 = .ok (.i2c, 1) := by decide +kernel
theorem dJ2_getChar_3b067_59 : decode cJ2_getChar_3b067 59 = .ok (.ireturn, 1) := by decide +kernel
theorem dJ2_length_9d52b_0 : decode cJ2_length_9d52b 0 = .ok (.aload_n 0, 1) := by decide +kernel
theorem dJ2_length_9d52b_1 : decode cJ2_length_9d52b 1 = .ok (.arraylength, 1) := by decide +kernel
theorem dJ2_length_9d52b_2 : decode cJ2_length_9d52b 2 = .ok (.iconst 1, 1) := by decide +kernel
theorem dJ2_length_9d52b_3 : decode cJ2_length_9d52b 3 = .ok (.ishr, 1) := by decide +kernel
theorem dJ2_length_9d52b_4 : decode cJ2_length_9d52b 4 = .ok (.ireturn, 1) := by decide +kernel
theorem dJ2_charAt_3b067_0 : decode cJ2_charAt_3b067 0 = .ok (.iload_n 1, 1) := by decide +kernel
theorem dJ2_charAt_3b067_1 : decode cJ2_charAt_3b067 1 = .ok (.aload_n 0, 1) := by decide +kernel
theorem dJ2_charAt_3b067_2 : decode cJ2_charAt_3b067 2 = .ok (.invokestatic 67, 3) := by decide +kernel
theorem dJ2_charAt_3b067_5 : decode cJ2_charAt_3b067 5 = .ok (.aload_n 0, 1) := by decide +kernel
theorem dJ2_charAt_3b067_6 : decode cJ2_charAt_3b067 6 = .ok (.iload_n 1, 1) := by decide +kernel
theorem dJ2_charAt_3b067_7 : decode cJ2_charAt_3b067 7 = .ok (.invokestatic 71, 3) := by decide +kernel
theorem dJ2_charAt_3b067_10 : decode cJ2_charAt_3b067 10 = .ok (.ireturn, 1) := by decide +kernel
theorem dJ2_checkIndex_2214a_0 : decode cJ2_checkIndex_2214a 0 = .ok (.iload_n 0, 1) := by decide +kernel
theorem dJ2_checkIndex_2214a_1 : decode cJ2_checkIndex_2214a 1 = .ok (.aload_n 1, 1) := by decide +kernel
theorem dJ2_checkIndex_2214a_2 : decode cJ2_checkIndex_2214a 2 = .ok (.invokestatic 48, 3) := by decide +kernel
theorem dJ2_checkIndex_2214a_5 : decode cJ2_checkIndex_2214a 5 = .ok (.invokestatic 414, 3) := by decide +kernel
theorem dJ2_checkIndex_2214a_8 : decode cJ2_checkIndex_2214a 8 = .ok (.return_, 1) := by decide +kernel
theorem dJ7_fill_53178_0 : decode cJ7_fill_53178 0 = .ok (.iconst 0, 1) := by decide +kernel
theorem dJ7_fill_53178_1 : decode cJ7_fill_53178 1 = .ok (.istore_n 2, 1) := by decide +kernel
theorem dJ7_fill_53178_2 : decode cJ7_fill_53178 2 = .ok (.aload_n 0, 1) := by decide +kernel
theorem dJ7_fill_53178_3 : decode cJ7_fill_53178 3 = .ok (.arraylength, 1) := by decide +kernel
theorem dJ7_fill_53178_4 : decode cJ7_fill_53178 4 = .ok (.istore_n 3, 1) := by decide +kernel
theorem dJ7_fill_53178_5 : decode cJ7_fill_53178 5 = .ok (.iload_n 2, 1) := by decide +kernel
theorem dJ7_fill_53178_6 : decode cJ7_fill_53178 6 = .ok (.iload_n 3, 1) := by decide +kernel
theorem dJ7_fill_53178_7 : decode cJ7_fill_53178 7 = .ok (.if_icmp .ge 13, 3) := by decide +kernel
theorem dJ7_fill_53178_10 : decode cJ7_fill_53178 10 = .ok (.aload_n 0, 1) := by decide +kernel
theorem dJ7_fill_53178_11 : decode cJ7_fill_53178 11 = .ok (.iload_n 2, 1) := by decide +kernel
theorem dJ7_fill_53178_12 : decode cJ7_fill_53178 12 = .ok (.iload_n 1, 1) := by decide +kernel
theorem dJ7_fill_53178_13 : decode cJ7_fill_53178 13 = .ok (.iastore, 1) := by decide +kernel
theorem dJ7_fill_53178_14 : decode cJ7_fill_53178 14 = .ok (.iinc 2 1, 3) := by decide +kernel
theorem dJ7_fill_53178_17 : decode cJ7_fill_53178 17 = .ok (.goto (-12), 3) := by decide +kernel
theorem dJ7_fill_53178_20 : decode cJ7_fill_53178 20 = .ok (.return_, 1) := by decide +kernel
theorem dJ7_copyOf_59c91_0 : decode cJ7_copyOf_59c91 0 = .ok (.iload_n 1, 1) := by decide +kernel
theorem dJ7_copyOf_59c91_1 : decode cJ7_copyOf_59c91 1 = .ok (.aload_n 0, 1) := by decide +kernel
theorem dJ7_copyOf_59c91_2 : decode cJ7_copyOf_59c91 2 = .ok (.arraylength, 1) := by decide +kernel
theorem dJ7_copyOf_59c91_3 : decode cJ7_copyOf_59c91 3 = .ok (.if_icmp .ne 11, 3) := by decide +kernel
theorem dJ7_copyOf_59c91_6 : decode cJ7_copyOf_59c91 6 = .ok (.aload_n 0, 1) := by decide +kernel
theorem dJ7_copyOf_59c91_7 : decode cJ7_copyOf_59c91 7 = .ok (.invokevirtual 316, 3) := by decide +kernel
theorem dJ7_copyOf_59c91_10 : decode cJ7_copyOf_59c91 10 = .ok (.checkcast 317, 3) := by decide +kernel
theorem dJ7_copyOf_59c91_13 : decode cJ7_copyOf_59c91 13 = .ok (.areturn, 1) := by decide +kernel
theorem dJ7_copyOf_59c91_14 : decode cJ7_copyOf_59c91 14 = .ok (.iload_n 1, 1) := by decide +kernel
theorem dJ7_copyOf_59c91_15 : decode cJ7_copyOf_59c91 15 = .ok (.newarray .int, 2) := by decide +kernel
theorem dJ7_copyOf_59c91_17 : decode cJ7_copyOf_59c91 17 = .ok (.astore_n 2, 1) := by decide +kernel
theorem dJ7_copyOf_59c91_18 : decode cJ7_copyOf_59c91 18 = .ok (.aload_n 0, 1) := by decide +kernel
theorem dJ7_copyOf_59c91_19 : decode cJ7_copyOf_59c91 19 = .ok (.iconst 0, 1) := by decide +kernel
theorem dJ7_copyOf_59c91_20 : decode cJ7_copyOf_59c91 20 = .ok (.aload_n 2, 1) := by decide +kernel
theorem dJ7_copyOf_59c91_21 : decode cJ7_copyOf_59c91 21 = .ok (.iconst 0, 1) := by decide +kernel
theorem dJ7_copyOf_59c91_22 : decode cJ7_copyOf_59c91 22 = .ok (.aload_n 0, 1) := by decide +kernel
theorem dJ7_copyOf_59c91_23 : decode cJ7_copyOf_59c91 23 = .ok (.arraylength, 1) := by decide +kernel
theorem dJ7_copyOf_59c91_24 : decode cJ7_copyOf_59c91 24 = .ok (.iload_n 1, 1) := by decide +kernel
theorem dJ7_copyOf_59c91_25 : decode cJ7_copyOf_59c91 25 = .ok (.invokestatic 304, 3) := by decide +kernel
theorem dJ7_copyOf_59c91_28 : decode cJ7_copyOf_59c91 28 = .ok (.invokestatic 150, 3) := by decide +kernel
theorem dJ7_copyOf_59c91_31 : decode cJ7_copyOf_59c91 31 = .ok (.aload_n 2, 1) := by decide +kernel
theorem dJ7_copyOf_59c91_32 : decode cJ7_copyOf_59c91 32 = .ok (.areturn, 1) := by decide +kernel
