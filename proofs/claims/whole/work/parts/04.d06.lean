theorem dX13_next_100 : decode cX13_next 100 = .ok (.iadd, 1) := by decide +kernel
theorem dX13_next_101 : decode cX13_next 101 = .ok (.putfield 90, 3) := by decide +kernel
theorem dX13_next_104 : decode cX13_next 104 = .ok (.goto (-21), 3) := by decide +kernel
theorem dX13_next_107 : decode cX13_next 107 = .ok (.aload_n 0, 1) := by decide +kernel
theorem dX13_next_108 : decode cX13_next 108 = .ok (.bipush 48, 2) := by decide +kernel
theorem dX13_next_110 : decode cX13_next 110 = .ok (.bipush 57, 2) := by decide +kernel
theorem dX13_next_112 : decode cX13_next 112 = .ok (.invokevirtual 93, 3) := by decide +kernel
theorem dX13_next_115 : decode cX13_next 115 = .ok (.ifCond .eq 62, 3) := by decide +kernel
theorem dX13_next_118 : decode cX13_next 118 = .ok (.aload_n 0, 1) := by decide +kernel
theorem dX13_next_119 : decode cX13_next 119 = .ok (.iconst 2, 1) := by decide +kernel
theorem dX13_next_120 : decode cX13_next 120 = .ok (.putfield 103, 3) := by decide +kernel
theorem dX13_next_123 : decode cX13_next 123 = .ok (.aload_n 0, 1) := by decide +kernel
theorem dX13_next_124 : decode cX13_next 124 = .ok (.bipush 48, 2) := by decide +kernel
theorem dX13_next_126 : decode cX13_next 126 = .ok (.bipush 57, 2) := by decide +kernel
theorem dX13_next_128 : decode cX13_next 128 = .ok (.invokevirtual 93, 3) := by decide +kernel
theorem dX13_next_131 : decode cX13_next 131 = .ok (.ifCond .eq 76, 3) := by decide +kernel
theorem dX13_next_134 : decode cX13_next 134 = .ok (.aload_n 0, 1) := by decide +kernel
theorem dX13_next_135 : decode cX13_next 135 = .ok (.sipush 10000, 3) := by decide +kernel
theorem dX13_next_138 : decode cX13_next 138 = .ok (.bipush 10, 2) := by decide +kernel
theorem dX13_next_140 : decode cX13_next 140 = .ok (.aload_n 0, 1) := by decide +kernel
theorem dX13_next_141 : decode cX13_next 141 = .ok (.getfield 100, 3) := by decide +kernel
theorem dX13_next_144 : decode cX13_next 144 = .ok (.imul, 1) := by decide +kernel
theorem dX13_next_145 : decode cX13_next 145 = .ok (.aload_n 0, 1) := by decide +kernel
theorem dX13_next_146 : decode cX13_next 146 = .ok (.getfield 31, 3) := by decide +kernel
theorem dX13_next_149 : decode cX13_next 149 = .ok (.aload_n 0, 1) := by decide +kernel
theorem dX13_next_150 : decode cX13_next 150 = .ok (.getfield 90, 3) := by decide +kernel
theorem dX13_next_153 : decode cX13_next 153 = .ok (.iaload, 1) := by decide +kernel
theorem dX13_next_154 : decode cX13_next 154 = .ok (.iadd, 1) := by decide +kernel
theorem dX13_next_155 : decode cX13_next 155 = .ok (.bipush 48, 2) := by decide +kernel
theorem dX13_next_157 : decode cX13_next 157 = .ok (.isub, 1) := by decide +kernel
theorem dX13_next_158 : decode cX13_next 158 = .ok (.invokestatic 106, 3) := by decide +kernel
theorem dX13_next_161 : decode cX13_next 161 = .ok (.putfield 100, 3) := by decide +kernel
theorem dX13_next_164 : decode cX13_next 164 = .ok (.aload_n 0, 1) := by decide +kernel
theorem dX13_next_165 : decode cX13_next 165 = .ok (.dup, 1) := by decide +kernel
theorem dX13_next_166 : decode cX13_next 166 = .ok (.getfield 90, 3) := by decide +kernel
theorem dX13_next_169 : decode cX13_next 169 = .ok (.iconst 1, 1) := by decide +kernel
theorem dX13_next_170 : decode cX13_next 170 = .ok (.iadd, 1) := by decide +kernel
theorem dX13_next_171 : decode cX13_next 171 = .ok (.putfield 90, 3) := by decide +kernel
theorem dX13_next_174 : decode cX13_next 174 = .ok (.goto (-51), 3) := by decide +kernel
theorem dX13_next_177 : decode cX13_next 177 = .ok (.aload_n 0, 1) := by decide +kernel
theorem dX13_next_178 : decode cX13_next 178 = .ok (.aload_n 0, 1) := by decide +kernel
theorem dX13_next_179 : decode cX13_next 179 = .ok (.bipush 59, 2) := by decide +kernel
theorem dX13_next_181 : decode cX13_next 181 = .ok (.bipush 59, 2) := by decide +kernel
theorem dX13_next_183 : decode cX13_next 183 = .ok (.invokevirtual 93, 3) := by decide +kernel
theorem dX13_next_186 : decode cX13_next 186 = .ok (.ifCond .eq 7, 3) := by decide +kernel
theorem dX13_next_189 : decode cX13_next 189 = .ok (.iconst 3, 1) := by decide +kernel
theorem dX13_next_190 : decode cX13_next 190 = .ok (.goto 4, 3) := by decide +kernel
theorem dX13_next_193 : decode cX13_next 193 = .ok (.iconst 4, 1) := by decide +kernel
theorem dX13_next_194 : decode cX13_next 194 = .ok (.putfield 103, 3) := by decide +kernel
theorem dX13_next_197 : decode cX13_next 197 = .ok (.aload_n 0, 1) := by decide +kernel
theorem dX13_next_198 : decode cX13_next 198 = .ok (.dup, 1) := by decide +kernel
theorem dX13_next_199 : decode cX13_next 199 = .ok (.getfield 90, 3) := by decide +kernel
theorem dX13_next_202 : decode cX13_next 202 = .ok (.iconst 1, 1) := by decide +kernel
theorem dX13_next_203 : decode cX13_next 203 = .ok (.iadd, 1) := by decide +kernel
theorem dX13_next_204 : decode cX13_next 204 = .ok (.putfield 90, 3) := by decide +kernel
theorem dX13_next_207 : decode cX13_next 207 = .ok (.return_, 1) := by decide +kernel
theorem dX13_faults_0 : decode cX13_faults 0 = .ok (.aload_n 0, 1) := by decide +kernel
theorem dX13_faults_1 : decode cX13_faults 1 = .ok (.getfield 112, 3) := by decide +kernel
theorem dX13_faults_4 : decode cX13_faults 4 = .ok (.ifCond .ne 21, 3) := by decide +kernel
theorem dX13_faults_7 : decode cX13_faults 7 = .ok (.aload_n 0, 1) := by decide +kernel
theorem dX13_faults_8 : decode cX13_faults 8 = .ok (.iconst 1, 1) := by decide +kernel
theorem dX13_faults_9 : decode cX13_faults 9 = .ok (.putfield 112, 3) := by decide +kernel
theorem dX13_faults_12 : decode cX13_faults 12 = .ok (.aload_n 0, 1) := by decide +kernel
theorem dX13_faults_13 : decode cX13_faults 13 = .ok (.iload_n 1, 1) := by decide +kernel
theorem dX13_faults_14 : decode cX13_faults 14 = .ok (.putfield 116, 3) := by decide +kernel
theorem dX13_faults_17 : decode cX13_faults 17 = .ok (.aload_n 0, 1) := by decide +kernel
theorem dX13_faults_18 : decode cX13_faults 18 = .ok (.aload_n 0, 1) := by decide +kernel
theorem dX13_faults_19 : decode cX13_faults 19 = .ok (.getfield 97, 3) := by decide +kernel
theorem dX13_faults_22 : decode cX13_faults 22 = .ok (.putfield 34, 3) := by decide +kernel
theorem dX13_faults_25 : decode cX13_faults 25 = .ok (.return_, 1) := by decide +kernel
theorem dX13_passes_0 : decode cX13_passes 0 = .ok (.aload_n 0, 1) := by decide +kernel
theorem dX13_passes_1 : decode cX13_passes 1 = .ok (.getfield 112, 3) := by decide +kernel
theorem dX13_passes_4 : decode cX13_passes 4 = .ok (.ifCond .ne 7, 3) := by decide +kernel
theorem dX13_passes_7 : decode cX13_passes 7 = .ok (.aload_n 0, 1) := by decide +kernel
theorem dX13_passes_8 : decode cX13_passes 8 = .ok (.invokevirtual 119, 3) := by decide +kernel
theorem dX13_passes_11 : decode cX13_passes 11 = .ok (.return_, 1) := by decide +kernel
theorem dX13_isWord_0 : decode cX13_isWord 0 = .ok (.aload_n 0, 1) := by decide +kernel
theorem dX13_isWord_1 : decode cX13_isWord 1 = .ok (.getfield 103, 3) := by decide +kernel
theorem dX13_isWord_4 : decode cX13_isWord 4 = .ok (.iconst 1, 1) := by decide +kernel
theorem dX13_isWord_5 : decode cX13_isWord 5 = .ok (.if_icmp .ne 23, 3) := by decide +kernel
theorem dX13_isWord_8 : decode cX13_isWord 8 = .ok (.aload_n 0, 1) := by decide +kernel
theorem dX13_isWord_9 : decode cX13_isWord 9 = .ok (.getfield 90, 3) := by decide +kernel
theorem dX13_isWord_12 : decode cX13_isWord 12 = .ok (.aload_n 0, 1) := by decide +kernel
theorem dX13_isWord_13 : decode cX13_isWord 13 = .ok (.getfield 97, 3) := by decide +kernel
theorem dX13_isWord_16 : decode cX13_isWord 16 = .ok (.isub, 1) := by decide +kernel
theorem dX13_isWord_17 : decode cX13_isWord 17 = .ok (.aload_n 1, 1) := by decide +kernel
theorem dX13_isWord_18 : decode cX13_isWord 18 = .ok (.invokevirtual 122, 3) := by decide +kernel
theorem dX13_isWord_21 : decode cX13_isWord 21 = .ok (.if_icmp .ne 7, 3) := by decide +kernel
theorem dX13_isWord_24 : decode cX13_isWord 24 = .ok (.iconst 1, 1) := by decide +kernel
theorem dX13_isWord_25 : decode cX13_isWord 25 = .ok (.goto 4, 3) := by decide +kernel
theorem dX13_isWord_28 : decode cX13_isWord 28 = .ok (.iconst 0, 1) := by decide +kernel
theorem dX13_isWord_29 : decode cX13_isWord 29 = .ok (.istore_n 2, 1) := by decide +kernel
theorem dX13_isWord_30 : decode cX13_isWord 30 = .ok (.iconst 0, 1) := by decide +kernel
theorem dX13_isWord_31 : decode cX13_isWord 31 = .ok (.istore_n 3, 1) := by decide +kernel
theorem dX13_isWord_32 : decode cX13_isWord 32 = .ok (.iload_n 3, 1) := by decide +kernel
theorem dX13_isWord_33 : decode cX13_isWord 33 = .ok (.aload_n 1, 1) := by decide +kernel
theorem dX13_isWord_34 : decode cX13_isWord 34 = .ok (.invokevirtual 122, 3) := by decide +kernel
theorem dX13_isWord_37 : decode cX13_isWord 37 = .ok (.if_icmp .ge 38, 3) := by decide +kernel
theorem dX13_isWord_40 : decode cX13_isWord 40 = .ok (.iload_n 2, 1) := by decide +kernel
theorem dX13_isWord_41 : decode cX13_isWord 41 = .ok (.ifCond .eq 34, 3) := by decide +kernel
theorem dX13_isWord_44 : decode cX13_isWord 44 = .ok (.aload_n 0, 1) := by decide +kernel
theorem dX13_isWord_45 : decode cX13_isWord 45 = .ok (.getfield 31, 3) := by decide +kernel
theorem dX13_isWord_48 : decode cX13_isWord 48 = .ok (.aload_n 0, 1) := by decide +kernel
theorem dX13_isWord_49 : decode cX13_isWord 49 = .ok (.getfield 97, 3) := by decide +kernel
theorem dX13_isWord_52 : decode cX13_isWord 52 = .ok (.iload_n 3, 1) := by decide +kernel
theorem dX13_isWord_53 : decode cX13_isWord 53 = .ok (.iadd, 1) := by decide +kernel
theorem dX13_isWord_54 : decode cX13_isWord 54 = .ok (.iaload, 1) := by decide +kernel
theorem dX13_isWord_55 : decode cX13_isWord 55 = .ok (.aload_n 1, 1) := by decide +kernel
theorem dX13_isWord_56 : decode cX13_isWord 56 = .ok (.iload_n 3, 1) := by decide +kernel
theorem dX13_isWord_57 : decode cX13_isWord 57 = .ok (.invokevirtual 128, 3) := by decide +kernel
theorem dX13_isWord_60 : decode cX13_isWord 60 = .ok (.if_icmp .ne 7, 3) := by decide +kernel
theorem dX13_isWord_63 : decode cX13_isWord 63 = .ok (.iconst 1, 1) := by decide +kernel
theorem dX13_isWord_64 : decode cX13_isWord 64 = .ok (.goto 4, 3) := by decide +kernel
theorem dX13_isWord_67 : decode cX13_isWord 67 = .ok (.iconst 0, 1) := by decide +kernel
theorem dX13_isWord_68 : decode cX13_isWord 68 = .ok (.istore_n 2, 1) := by decide +kernel
theorem dX13_isWord_69 : decode cX13_isWord 69 = .ok (.iinc 3 1, 3) := by decide +kernel
theorem dX13_isWord_72 : decode cX13_isWord 72 = .ok (.goto (-40), 3) := by decide +kernel
theorem dX13_isWord_75 : decode cX13_isWord 75 = .ok (.iload_n 2, 1) := by decide +kernel
theorem dX13_isWord_76 : decode cX13_isWord 76 = .ok (.ireturn, 1) := by decide +kernel
theorem dX13_number_0 : decode cX13_number 0 = .ok (.aload_n 0, 1) := by decide +kernel
theorem dX13_number_1 : decode cX13_number 1 = .ok (.getfield 100, 3) := by decide +kernel
theorem dX13_number_4 : decode cX13_number 4 = .ok (.istore_n 3, 1) := by decide +kernel
theorem dX13_number_5 : decode cX13_number 5 = .ok (.aload_n 0, 1) := by decide +kernel
theorem dX13_number_6 : decode cX13_number 6 = .ok (.getfield 112, 3) := by decide +kernel
theorem dX13_number_9 : decode cX13_number 9 = .ok (.ifCond .ne 16, 3) := by decide +kernel
theorem dX13_number_12 : decode cX13_number 12 = .ok (.aload_n 0, 1) := by decide +kernel
theorem dX13_number_13 : decode cX13_number 13 = .ok (.getfield 103, 3) := by decide +kernel
theorem dX13_number_16 : decode cX13_number 16 = .ok (.iconst 2, 1) := by decide +kernel
theorem dX13_number_17 : decode cX13_number 17 = .ok (.if_icmp .eq 8, 3) := by decide +kernel
theorem dX13_number_20 : decode cX13_number 20 = .ok (.aload_n 0, 1) := by decide +kernel
theorem dX13_number_21 : decode cX13_number 21 = .ok (.iconst 1, 1) := by decide +kernel
theorem dX13_number_22 : decode cX13_number 22 = .ok (.invokevirtual 132, 3) := by decide +kernel
theorem dX13_number_25 : decode cX13_number 25 = .ok (.iload_n 3, 1) := by decide +kernel
theorem dX13_number_26 : decode cX13_number 26 = .ok (.i2l, 1) := by decide +kernel
theorem dX13_number_27 : decode cX13_number 27 = .ok (.iload_n 1, 1) := by decide +kernel
theorem dX13_number_28 : decode cX13_number 28 = .ok (.i2l, 1) := by decide +kernel
theorem dX13_number_29 : decode cX13_number 29 = .ok (.iload_n 2, 1) := by decide +kernel
theorem dX13_number_30 : decode cX13_number 30 = .ok (.i2l, 1) := by decide +kernel
theorem dX13_number_31 : decode cX13_number 31 = .ok (.invokestatic 86, 3) := by decide +kernel
theorem dX13_number_34 : decode cX13_number 34 = .ok (.ifCond .ne 8, 3) := by decide +kernel
theorem dX13_number_37 : decode cX13_number 37 = .ok (.aload_n 0, 1) := by decide +kernel
theorem dX13_number_38 : decode cX13_number 38 = .ok (.iconst 2, 1) := by decide +kernel
theorem dX13_number_39 : decode cX13_number 39 = .ok (.invokevirtual 132, 3) := by decide +kernel
theorem dX13_number_42 : decode cX13_number 42 = .ok (.aload_n 0, 1) := by decide +kernel
theorem dX13_number_43 : decode cX13_number 43 = .ok (.invokevirtual 136, 3) := by decide +kernel
theorem dX13_number_46 : decode cX13_number 46 = .ok (.aload_n 0, 1) := by decide +kernel
theorem dX13_number_47 : decode cX13_number 47 = .ok (.getfield 112, 3) := by decide +kernel
theorem dX13_number_50 : decode cX13_number 50 = .ok (.ifCond .eq 7, 3) := by decide +kernel
theorem dX13_number_53 : decode cX13_number 53 = .ok (.iload_n 1, 1) := by decide +kernel
theorem dX13_number_54 : decode cX13_number 54 = .ok (.goto 4, 3) := by decide +kernel
theorem dX13_number_57 : decode cX13_number 57 = .ok (.iload_n 3, 1) := by decide +kernel
theorem dX13_number_58 : decode cX13_number 58 = .ok (.ireturn, 1) := by decide +kernel
theorem dX13_numberBehind_0 : decode cX13_numberBehind 0 = .ok (.aload_n 0, 1) := by decide +kernel
theorem dX13_numberBehind_1 : decode cX13_numberBehind 1 = .ok (.getfield 112, 3) := by decide +kernel
theorem dX13_numberBehind_4 : decode cX13_numberBehind 4 = .ok (.ifCond .ne 16, 3) := by decide +kernel
theorem dX13_numberBehind_7 : decode cX13_numberBehind 7 = .ok (.aload_n 0, 1) := by decide +kernel
theorem dX13_numberBehind_8 : decode cX13_numberBehind 8 = .ok (.aload_n 1, 1) := by decide +kernel
theorem dX13_numberBehind_9 : decode cX13_numberBehind 9 = .ok (.invokevirtual 139, 3) := by decide +kernel
theorem dX13_numberBehind_12 : decode cX13_numberBehind 12 = .ok (.ifCond .ne 8, 3) := by decide +kernel
theorem dX13_numberBehind_15 : decode cX13_numberBehind 15 = .ok (.aload_n 0, 1) := by decide +kernel
theorem dX13_numberBehind_16 : decode cX13_numberBehind 16 = .ok (.iconst 1, 1) := by decide +kernel
theorem dX13_numberBehind_17 : decode cX13_numberBehind 17 = .ok (.invokevirtual 132, 3) := by decide +kernel
theorem dX13_numberBehind_20 : decode cX13_numberBehind 20 = .ok (.aload_n 0, 1) := by decide +kernel
theorem dX13_numberBehind_21 : decode cX13_numberBehind 21 = .ok (.invokevirtual 136, 3) := by decide +kernel
theorem dX13_numberBehind_24 : decode cX13_numberBehind 24 = .ok (.aload_n 0, 1) := by decide +kernel
theorem dX13_numberBehind_25 : decode cX13_numberBehind 25 = .ok (.iload_n 2, 1) := by decide +kernel
theorem dX13_numberBehind_26 : decode cX13_numberBehind 26 = .ok (.iload_n 3, 1) := by decide +kernel
theorem dX13_numberBehind_27 : decode cX13_numberBehind 27 = .ok (.invokevirtual 143, 3) := by decide +kernel
theorem dX13_numberBehind_30 : decode cX13_numberBehind 30 = .ok (.ireturn, 1) := by decide +kernel
theorem dX13_readsAt_0 : decode cX13_readsAt 0 = .ok (.aload_n 0, 1) := by decide +kernel
theorem dX13_readsAt_1 : decode cX13_readsAt 1 = .ok (.getfield 146, 3) := by decide +kernel
theorem dX13_readsAt_4 : decode cX13_readsAt 4 = .ok (.bipush 60, 2) := by decide +kernel
theorem dX13_readsAt_6 : decode cX13_readsAt 6 = .ok (.if_icmp .ne 8, 3) := by decide +kernel
theorem dX13_readsAt_9 : decode cX13_readsAt 9 = .ok (.aload_n 0, 1) := by decide +kernel
theorem dX13_readsAt_10 : decode cX13_readsAt 10 = .ok (.iconst 4, 1) := by decide +kernel
theorem dX13_readsAt_11 : decode cX13_readsAt 11 = .ok (.invokevirtual 132, 3) := by decide +kernel
theorem dX13_readsAt_14 : decode cX13_readsAt 14 = .ok (.aload_n 0, 1) := by decide +kernel
theorem dX13_readsAt_15 : decode cX13_readsAt 15 = .ok (.invokevirtual 136, 3) := by decide +kernel
theorem dX13_readsAt_18 : decode cX13_readsAt 18 = .ok (.aload_n 0, 1) := by decide +kernel
theorem dX13_readsAt_19 : decode cX13_readsAt 19 = .ok (.getfield 112, 3) := by decide +kernel
theorem dX13_readsAt_22 : decode cX13_readsAt 22 = .ok (.ifCond .ne 43, 3) := by decide +kernel
theorem dX13_readsAt_25 : decode cX13_readsAt 25 = .ok (.aload_n 0, 1) := by decide +kernel
theorem dX13_readsAt_26 : decode cX13_readsAt 26 = .ok (.getfield 103, 3) := by decide +kernel
theorem dX13_readsAt_29 : decode cX13_readsAt 29 = .ok (.iconst 2, 1) := by decide +kernel
theorem dX13_readsAt_30 : decode cX13_readsAt 30 = .ok (.if_icmp .ne 35, 3) := by decide +kernel
theorem dX13_readsAt_33 : decode cX13_readsAt 33 = .ok (.aload_n 0, 1) := by decide +kernel
theorem dX13_readsAt_34 : decode cX13_readsAt 34 = .ok (.getfield 100, 3) := by decide +kernel
theorem dX13_readsAt_37 : decode cX13_readsAt 37 = .ok (.i2l, 1) := by decide +kernel
theorem dX13_readsAt_38 : decode cX13_readsAt 38 = .ok (.lconst 0, 1) := by decide +kernel
theorem dX13_readsAt_39 : decode cX13_readsAt 39 = .ok (.ldc2_w 149, 3) := by decide +kernel
theorem dX13_readsAt_42 : decode cX13_readsAt 42 = .ok (.invokestatic 86, 3) := by decide +kernel
theorem dX13_readsAt_45 : decode cX13_readsAt 45 = .ok (.ifCond .eq 20, 3) := by decide +kernel
theorem dX13_readsAt_48 : decode cX13_readsAt 48 = .ok (.aload_n 0, 1) := by decide +kernel
theorem dX13_readsAt_49 : decode cX13_readsAt 49 = .ok (.getfield 41, 3) := by decide +kernel
theorem dX13_readsAt_52 : decode cX13_readsAt 52 = .ok (.aload_n 0, 1) := by decide +kernel
theorem dX13_readsAt_53 : decode cX13_readsAt 53 = .ok (.getfield 100, 3) := by decide +kernel
theorem dX13_readsAt_56 : decode cX13_readsAt 56 = .ok (.baload, 1) := by decide +kernel
theorem dX13_readsAt_57 : decode cX13_readsAt 57 = .ok (.ifCond .eq 8, 3) := by decide +kernel
theorem dX13_readsAt_60 : decode cX13_readsAt 60 = .ok (.aload_n 0, 1) := by decide +kernel
theorem dX13_readsAt_61 : decode cX13_readsAt 61 = .ok (.iconst 3, 1) := by decide +kernel
theorem dX13_readsAt_62 : decode cX13_readsAt 62 = .ok (.invokevirtual 132, 3) := by decide +kernel
theorem dX13_readsAt_65 : decode cX13_readsAt 65 = .ok (.aload_n 0, 1) := by decide +kernel
theorem dX13_readsAt_66 : decode cX13_readsAt 66 = .ok (.iconst 0, 1) := by decide +kernel
theorem dX13_readsAt_67 : decode cX13_readsAt 67 = .ok (.sipush 999, 3) := by decide +kernel
theorem dX13_readsAt_70 : decode cX13_readsAt 70 = .ok (.invokevirtual 143, 3) := by decide +kernel
theorem dX13_readsAt_73 : decode cX13_readsAt 73 = .ok (.istore_n 1, 1) := by decide +kernel
theorem dX13_readsAt_74 : decode cX13_readsAt 74 = .ok (.aload_n 0, 1) := by decide +kernel
theorem dX13_readsAt_75 : decode cX13_readsAt 75 = .ok (.ldc 151, 2) := by decide +kernel
theorem dX13_readsAt_77 : decode cX13_readsAt 77 = .ok (.iconst 0, 1) := by decide +kernel
theorem dX13_readsAt_78 : decode cX13_readsAt 78 = .ok (.bipush 99, 2) := by decide +kernel
theorem dX13_readsAt_80 : decode cX13_readsAt 80 = .ok (.invokevirtual 152, 3) := by decide +kernel
theorem dX13_readsAt_83 : decode cX13_readsAt 83 = .ok (.istore_n 2, 1) := by decide +kernel
theorem dX13_readsAt_84 : decode cX13_readsAt 84 = .ok (.aload_n 0, 1) := by decide +kernel
theorem dX13_readsAt_85 : decode cX13_readsAt 85 = .ok (.ldc 156, 2) := by decide +kernel
theorem dX13_readsAt_87 : decode cX13_readsAt 87 = .ok (.iconst 0, 1) := by decide +kernel
theorem dX13_readsAt_88 : decode cX13_readsAt 88 = .ok (.bipush 99, 2) := by decide +kernel
theorem dX13_readsAt_90 : decode cX13_readsAt 90 = .ok (.invokevirtual 152, 3) := by decide +kernel
theorem dX13_readsAt_93 : decode cX13_readsAt 93 = .ok (.istore_n 3, 1) := by decide +kernel
theorem dX13_readsAt_94 : decode cX13_readsAt 94 = .ok (.iconst 0, 1) := by decide +kernel
theorem dX13_readsAt_95 : decode cX13_readsAt 95 = .ok (.istore 4, 2) := by decide +kernel
theorem dX13_readsAt_97 : decode cX13_readsAt 97 = .ok (.aload_n 0, 1) := by decide +kernel
theorem dX13_readsAt_98 : decode cX13_readsAt 98 = .ok (.getfield 112, 3) := by decide +kernel
theorem dX13_readsAt_101 : decode cX13_readsAt 101 = .ok (.ifCond .ne 23, 3) := by decide +kernel
theorem dX13_readsAt_104 : decode cX13_readsAt 104 = .ok (.aload_n 0, 1) := by decide +kernel
theorem dX13_readsAt_105 : decode cX13_readsAt 105 = .ok (.ldc 157, 2) := by decide +kernel
theorem dX13_readsAt_107 : decode cX13_readsAt 107 = .ok (.invokevirtual 139, 3) := by decide +kernel
theorem dX13_readsAt_110 : decode cX13_readsAt 110 = .ok (.ifCond .eq 14, 3) := by decide +kernel
theorem dX13_readsAt_113 : decode cX13_readsAt 113 = .ok (.aload_n 0, 1) := by decide +kernel
theorem dX13_readsAt_114 : decode cX13_readsAt 114 = .ok (.ldc 157, 2) := by decide +kernel
theorem dX13_readsAt_116 : decode cX13_readsAt 116 = .ok (.iconst 0, 1) := by decide +kernel
theorem dX13_readsAt_117 : decode cX13_readsAt 117 = .ok (.bipush 99, 2) := by decide +kernel
theorem dX13_readsAt_119 : decode cX13_readsAt 119 = .ok (.invokevirtual 152, 3) := by decide +kernel
theorem dX13_readsAt_122 : decode cX13_readsAt 122 = .ok (.istore 4, 2) := by decide +kernel
theorem dX13_readsAt_124 : decode cX13_readsAt 124 = .ok (.aload_n 0, 1) := by decide +kernel
theorem dX13_readsAt_125 : decode cX13_readsAt 125 = .ok (.getfield 112, 3) := by decide +kernel
theorem dX13_readsAt_128 : decode cX13_readsAt 128 = .ok (.ifCond .eq 4, 3) := by decide +kernel
theorem dX13_readsAt_131 : decode cX13_readsAt 131 = .ok (.return_, 1) := by decide +kernel
theorem dX13_readsAt_132 : decode cX13_readsAt 132 = .ok (.aload_n 0, 1) := by decide +kernel
theorem dX13_readsAt_133 : decode cX13_readsAt 133 = .ok (.getfield 41, 3) := by decide +kernel
theorem dX13_readsAt_136 : decode cX13_readsAt 136 = .ok (.iload_n 1, 1) := by decide +kernel
theorem dX13_readsAt_137 : decode cX13_readsAt 137 = .ok (.iconst 1, 1) := by decide +kernel
theorem dX13_readsAt_138 : decode cX13_readsAt 138 = .ok (.bastore, 1) := by decide +kernel
theorem dX13_readsAt_139 : decode cX13_readsAt 139 = .ok (.aload_n 0, 1) := by decide +kernel
theorem dX13_readsAt_140 : decode cX13_readsAt 140 = .ok (.getfield 38, 3) := by decide +kernel
theorem dX13_readsAt_143 : decode cX13_readsAt 143 = .ok (.iconst 0, 1) := by decide +kernel
theorem dX13_readsAt_144 : decode cX13_readsAt 144 = .ok (.iload_n 1, 1) := by decide +kernel
theorem dX13_readsAt_145 : decode cX13_readsAt 145 = .ok (.iadd, 1) := by decide +kernel
theorem dX13_readsAt_146 : decode cX13_readsAt 146 = .ok (.iload_n 2, 1) := by decide +kernel
theorem dX13_readsAt_147 : decode cX13_readsAt 147 = .ok (.iastore, 1) := by decide +kernel
theorem dX13_readsAt_148 : decode cX13_readsAt 148 = .ok (.aload_n 0, 1) := by decide +kernel
theorem dX13_readsAt_149 : decode cX13_readsAt 149 = .ok (.getfield 38, 3) := by decide +kernel
theorem dX13_readsAt_152 : decode cX13_readsAt 152 = .ok (.sipush 1000, 3) := by decide +kernel
theorem dX13_readsAt_155 : decode cX13_readsAt 155 = .ok (.iload_n 1, 1) := by decide +kernel
theorem dX13_readsAt_156 : decode cX13_readsAt 156 = .ok (.iadd, 1) := by decide +kernel
theorem dX13_readsAt_157 : decode cX13_readsAt 157 = .ok (.iload_n 3, 1) := by decide +kernel
theorem dX13_readsAt_158 : decode cX13_readsAt 158 = .ok (.iastore, 1) := by decide +kernel
theorem dX13_readsAt_159 : decode cX13_readsAt 159 = .ok (.aload_n 0, 1) := by decide +kernel
theorem dX13_readsAt_160 : decode cX13_readsAt 160 = .ok (.getfield 38, 3) := by decide +kernel
theorem dX13_readsAt_163 : decode cX13_readsAt 163 = .ok (.sipush 2000, 3) := by decide +kernel
theorem dX13_readsAt_166 : decode cX13_readsAt 166 = .ok (.iload_n 1, 1) := by decide +kernel
theorem dX13_readsAt_167 : decode cX13_readsAt 167 = .ok (.iadd, 1) := by decide +kernel
theorem dX13_readsAt_168 : decode cX13_readsAt 168 = .ok (.iload 4, 2) := by decide +kernel
theorem dX13_readsAt_170 : decode cX13_readsAt 170 = .ok (.iastore, 1) := by decide +kernel
theorem dX13_readsAt_171 : decode cX13_readsAt 171 = .ok (.aload_n 0, 1) := by decide +kernel
theorem dX13_readsAt_172 : decode cX13_readsAt 172 = .ok (.dup, 1) := by decide +kernel
theorem dX13_readsAt_173 : decode cX13_readsAt 173 = .ok (.getfield 146, 3) := by decide +kernel
theorem dX13_readsAt_176 : decode cX13_readsAt 176 = .ok (.iconst 1, 1) := by decide +kernel
theorem dX13_readsAt_177 : decode cX13_readsAt 177 = .ok (.iadd, 1) := by decide +kernel
theorem dX13_readsAt_178 : decode cX13_readsAt 178 = .ok (.putfield 146, 3) := by decide +kernel
theorem dX13_readsAt_181 : decode cX13_readsAt 181 = .ok (.return_, 1) := by decide +kernel
theorem dX13_readsRule_0 : decode cX13_readsRule 0 = .ok (.aload_n 0, 1) := by decide +kernel
theorem dX13_readsRule_1 : decode cX13_readsRule 1 = .ok (.getfield 45, 3) := by decide +kernel
theorem dX13_readsRule_4 : decode cX13_readsRule 4 = .ok (.iload_n 1, 1) := by decide +kernel
theorem dX13_readsRule_5 : decode cX13_readsRule 5 = .ok (.iaload, 1) := by decide +kernel
theorem dX13_readsRule_6 : decode cX13_readsRule 6 = .ok (.iconst (-1), 1) := by decide +kernel
theorem dX13_readsRule_7 : decode cX13_readsRule 7 = .ok (.if_icmp .eq 8, 3) := by decide +kernel
theorem dX13_readsRule_10 : decode cX13_readsRule 10 = .ok (.aload_n 0, 1) := by decide +kernel
theorem dX13_readsRule_11 : decode cX13_readsRule 11 = .ok (.iconst 3, 1) := by decide +kernel
theorem dX13_readsRule_12 : decode cX13_readsRule 12 = .ok (.invokevirtual 132, 3) := by decide +kernel
theorem dX13_readsRule_15 : decode cX13_readsRule 15 = .ok (.aload_n 0, 1) := by decide +kernel
theorem dX13_readsRule_16 : decode cX13_readsRule 16 = .ok (.invokevirtual 136, 3) := by decide +kernel
theorem dX13_readsRule_19 : decode cX13_readsRule 19 = .ok (.iconst 0, 1) := by decide +kernel
theorem dX13_readsRule_20 : decode cX13_readsRule 20 = .ok (.istore 5, 2) := by decide +kernel
theorem dX13_readsRule_22 : decode cX13_readsRule 22 = .ok (.iload 5, 2) := by decide +kernel
theorem dX13_readsRule_24 : decode cX13_readsRule 24 = .ok (.iload_n 2, 1) := by decide +kernel
theorem dX13_readsRule_25 : decode cX13_readsRule 25 = .ok (.if_icmp .ge 29, 3) := by decide +kernel
theorem dX13_readsRule_28 : decode cX13_readsRule 28 = .ok (.aload_n 0, 1) := by decide +kernel
theorem dX13_readsRule_29 : decode cX13_readsRule 29 = .ok (.iload_n 3, 1) := by decide +kernel
theorem dX13_readsRule_30 : decode cX13_readsRule 30 = .ok (.iload 4, 2) := by decide +kernel
theorem dX13_readsRule_32 : decode cX13_readsRule 32 = .ok (.invokevirtual 143, 3) := by decide +kernel
theorem dX13_readsRule_35 : decode cX13_readsRule 35 = .ok (.istore 6, 2) := by decide +kernel
theorem dX13_readsRule_37 : decode cX13_readsRule 37 = .ok (.aload_n 0, 1) := by decide +kernel
theorem dX13_readsRule_38 : decode cX13_readsRule 38 = .ok (.getfield 45, 3) := by decide +kernel
theorem dX13_readsRule_41 : decode cX13_readsRule 41 = .ok (.iload_n 1, 1) := by decide +kernel
theorem dX13_readsRule_42 : decode cX13_readsRule 42 = .ok (.iload 5, 2) := by decide +kernel
theorem dX13_readsRule_44 : decode cX13_readsRule 44 = .ok (.iadd, 1) := by decide +kernel
theorem dX13_readsRule_45 : decode cX13_readsRule 45 = .ok (.iload 6, 2) := by decide +kernel
theorem dX13_readsRule_47 : decode cX13_readsRule 47 = .ok (.iastore, 1) := by decide +kernel
theorem dX13_readsRule_48 : decode cX13_readsRule 48 = .ok (.iinc 5 1, 3) := by decide +kernel
theorem dX13_readsRule_51 : decode cX13_readsRule 51 = .ok (.goto (-29), 3) := by decide +kernel
theorem dX13_readsRule_54 : decode cX13_readsRule 54 = .ok (.return_, 1) := by decide +kernel
theorem dX13_readsLine_0 : decode cX13_readsLine 0 = .ok (.aload_n 0, 1) := by decide +kernel
theorem dX13_readsLine_1 : decode cX13_readsLine 1 = .ok (.ldc 159, 2) := by decide +kernel
theorem dX13_readsLine_3 : decode cX13_readsLine 3 = .ok (.invokevirtual 139, 3) := by decide +kernel
theorem dX13_readsLine_6 : decode cX13_readsLine 6 = .ok (.ifCond .eq 10, 3) := by decide +kernel
theorem dX13_readsLine_9 : decode cX13_readsLine 9 = .ok (.aload_n 0, 1) := by decide +kernel
theorem dX13_readsLine_10 : decode cX13_readsLine 10 = .ok (.invokevirtual 160, 3) := by decide +kernel
theorem dX13_readsLine_13 : decode cX13_readsLine 13 = .ok (.goto 85, 3) := by decide +kernel
theorem dX13_readsLine_16 : decode cX13_readsLine 16 = .ok (.iload_n 1, 1) := by decide +kernel
theorem dX13_readsLine_17 : decode cX13_readsLine 17 = .ok (.ifCond .eq 25, 3) := by decide +kernel
theorem dX13_readsLine_20 : decode cX13_readsLine 20 = .ok (.aload_n 0, 1) := by decide +kernel
theorem dX13_readsLine_21 : decode cX13_readsLine 21 = .ok (.ldc 163, 2) := by decide +kernel
theorem dX13_readsLine_23 : decode cX13_readsLine 23 = .ok (.invokevirtual 139, 3) := by decide +kernel
theorem dX13_readsLine_26 : decode cX13_readsLine 26 = .ok (.ifCond .eq 16, 3) := by decide +kernel
theorem dX13_readsLine_29 : decode cX13_readsLine 29 = .ok (.aload_n 0, 1) := by decide +kernel
theorem dX13_readsLine_30 : decode cX13_readsLine 30 = .ok (.iconst 0, 1) := by decide +kernel
theorem dX13_readsLine_31 : decode cX13_readsLine 31 = .ok (.iconst 1, 1) := by decide +kernel
theorem dX13_readsLine_32 : decode cX13_readsLine 32 = .ok (.iconst 0, 1) := by decide +kernel
theorem dX13_readsLine_33 : decode cX13_readsLine 33 = .ok (.sipush 9999, 3) := by decide +kernel
theorem dX13_readsLine_36 : decode cX13_readsLine 36 = .ok (.invokevirtual 165, 3) := by decide +kernel
theorem dX13_readsLine_39 : decode cX13_readsLine 39 = .ok (.goto 59, 3) := by decide +kernel
theorem dX13_readsLine_42 : decode cX13_readsLine 42 = .ok (.iload_n 1, 1) := by decide +kernel
theorem dX13_readsLine_43 : decode cX13_readsLine 43 = .ok (.ifCond .eq 24, 3) := by decide +kernel
theorem dX13_readsLine_46 : decode cX13_readsLine 46 = .ok (.aload_n 0, 1) := by decide +kernel
theorem dX13_readsLine_47 : decode cX13_readsLine 47 = .ok (.ldc 169, 2) := by decide +kernel
theorem dX13_readsLine_49 : decode cX13_readsLine 49 = .ok (.invokevirtual 139, 3) := by decide +kernel
theorem dX13_readsLine_52 : decode cX13_readsLine 52 = .ok (.ifCond .eq 15, 3) := by decide +kernel
theorem dX13_readsLine_55 : decode cX13_readsLine 55 = .ok (.aload_n 0, 1) := by decide +kernel
theorem dX13_readsLine_56 : decode cX13_readsLine 56 = .ok (.iconst 1, 1) := by decide +kernel
theorem dX13_readsLine_57 : decode cX13_readsLine 57 = .ok (.iconst 1, 1) := by decide +kernel
theorem dX13_readsLine_58 : decode cX13_readsLine 58 = .ok (.iconst 1, 1) := by decide +kernel
theorem dX13_readsLine_59 : decode cX13_readsLine 59 = .ok (.bipush 60, 2) := by decide +kernel
theorem dX13_readsLine_61 : decode cX13_readsLine 61 = .ok (.invokevirtual 165, 3) := by decide +kernel
theorem dX13_readsLine_64 : decode cX13_readsLine 64 = .ok (.goto 34, 3) := by decide +kernel
theorem dX13_readsLine_67 : decode cX13_readsLine 67 = .ok (.iload_n 1, 1) := by decide +kernel
theorem dX13_readsLine_68 : decode cX13_readsLine 68 = .ok (.ifCond .eq 25, 3) := by decide +kernel
theorem dX13_readsLine_71 : decode cX13_readsLine 71 = .ok (.aload_n 0, 1) := by decide +kernel
theorem dX13_readsLine_72 : decode cX13_readsLine 72 = .ok (.ldc 171, 2) := by decide +kernel
theorem dX13_readsLine_74 : decode cX13_readsLine 74 = .ok (.invokevirtual 139, 3) := by decide +kernel
theorem dX13_readsLine_77 : decode cX13_readsLine 77 = .ok (.ifCond .eq 16, 3) := by decide +kernel
theorem dX13_readsLine_80 : decode cX13_readsLine 80 = .ok (.aload_n 0, 1) := by decide +kernel
theorem dX13_readsLine_81 : decode cX13_readsLine 81 = .ok (.iconst 2, 1) := by decide +kernel
theorem dX13_readsLine_82 : decode cX13_readsLine 82 = .ok (.iconst 3, 1) := by decide +kernel
theorem dX13_readsLine_83 : decode cX13_readsLine 83 = .ok (.iconst 0, 1) := by decide +kernel
theorem dX13_readsLine_84 : decode cX13_readsLine 84 = .ok (.sipush 999, 3) := by decide +kernel
theorem dX13_readsLine_87 : decode cX13_readsLine 87 = .ok (.invokevirtual 165, 3) := by decide +kernel
theorem dX13_readsLine_90 : decode cX13_readsLine 90 = .ok (.goto 8, 3) := by decide +kernel
theorem dX13_readsLine_93 : decode cX13_readsLine 93 = .ok (.aload_n 0, 1) := by decide +kernel
theorem dX13_readsLine_94 : decode cX13_readsLine 94 = .ok (.iconst 1, 1) := by decide +kernel
theorem dX13_readsLine_95 : decode cX13_readsLine 95 = .ok (.invokevirtual 132, 3) := by decide +kernel
theorem dX13_readsLine_98 : decode cX13_readsLine 98 = .ok (.aload_n 0, 1) := by decide +kernel
theorem dX13_readsLine_99 : decode cX13_readsLine 99 = .ok (.getfield 112, 3) := by decide +kernel
theorem dX13_readsLine_102 : decode cX13_readsLine 102 = .ok (.ifCond .ne 16, 3) := by decide +kernel
theorem dX13_readsLine_105 : decode cX13_readsLine 105 = .ok (.aload_n 0, 1) := by decide +kernel
theorem dX13_readsLine_106 : decode cX13_readsLine 106 = .ok (.getfield 103, 3) := by decide +kernel
theorem dX13_readsLine_109 : decode cX13_readsLine 109 = .ok (.iconst 3, 1) := by decide +kernel
theorem dX13_readsLine_110 : decode cX13_readsLine 110 = .ok (.if_icmp .eq 8, 3) := by decide +kernel
theorem dX13_readsLine_113 : decode cX13_readsLine 113 = .ok (.aload_n 0, 1) := by decide +kernel
theorem dX13_readsLine_114 : decode cX13_readsLine 114 = .ok (.iconst 1, 1) := by decide +kernel
theorem dX13_readsLine_115 : decode cX13_readsLine 115 = .ok (.invokevirtual 132, 3) := by decide +kernel
theorem dX13_readsLine_118 : decode cX13_readsLine 118 = .ok (.aload_n 0, 1) := by decide +kernel
theorem dX13_readsLine_119 : decode cX13_readsLine 119 = .ok (.invokevirtual 136, 3) := by decide +kernel
theorem dX13_readsLine_122 : decode cX13_readsLine 122 = .ok (.aload_n 0, 1) := by decide +kernel
theorem dX13_readsLine_123 : decode cX13_readsLine 123 = .ok (.dup, 1) := by decide +kernel
theorem dX13_readsLine_124 : decode cX13_readsLine 124 = .ok (.getfield 173, 3) := by decide +kernel
theorem dX13_readsLine_127 : decode cX13_readsLine 127 = .ok (.iconst 1, 1) := by decide +kernel
theorem dX13_readsLine_128 : decode cX13_readsLine 128 = .ok (.iadd, 1) := by decide +kernel
theorem dX13_readsLine_129 : decode cX13_readsLine 129 = .ok (.putfield 173, 3) := by decide +kernel
theorem dX13_readsLine_132 : decode cX13_readsLine 132 = .ok (.return_, 1) := by decide +kernel
theorem dX13_reads_0 : decode cX13_reads 0 = .ok (.iconst 0, 1) := by decide +kernel
theorem dX13_reads_1 : decode cX13_reads 1 = .ok (.istore_n 2, 1) := by decide +kernel
theorem dX13_reads_2 : decode cX13_reads 2 = .ok (.iload_n 2, 1) := by decide +kernel
theorem dX13_reads_3 : decode cX13_reads 3 = .ok (.sipush 3000, 3) := by decide +kernel
theorem dX13_reads_6 : decode cX13_reads 6 = .ok (.if_icmp .ge 16, 3) := by decide +kernel
theorem dX13_reads_9 : decode cX13_reads 9 = .ok (.aload_n 0, 1) := by decide +kernel
theorem dX13_reads_10 : decode cX13_reads 10 = .ok (.getfield 38, 3) := by decide +kernel
theorem dX13_reads_13 : decode cX13_reads 13 = .ok (.iload_n 2, 1) := by decide +kernel
theorem dX13_reads_14 : decode cX13_reads 14 = .ok (.iconst 0, 1) := by decide +kernel
theorem dX13_reads_15 : decode cX13_reads 15 = .ok (.iastore, 1) := by decide +kernel
theorem dX13_reads_16 : decode cX13_reads 16 = .ok (.iinc 2 1, 3) := by decide +kernel
theorem dX13_reads_19 : decode cX13_reads 19 = .ok (.goto (-17), 3) := by decide +kernel
theorem dX13_reads_22 : decode cX13_reads 22 = .ok (.iconst 0, 1) := by decide +kernel
theorem dX13_reads_23 : decode cX13_reads 23 = .ok (.istore_n 2, 1) := by decide +kernel
theorem dX13_reads_24 : decode cX13_reads 24 = .ok (.iload_n 2, 1) := by decide +kernel
theorem dX13_reads_25 : decode cX13_reads 25 = .ok (.sipush 1000, 3) := by decide +kernel
theorem dX13_reads_28 : decode cX13_reads 28 = .ok (.if_icmp .ge 16, 3) := by decide +kernel
theorem dX13_reads_31 : decode cX13_reads 31 = .ok (.aload_n 0, 1) := by decide +kernel
theorem dX13_reads_32 : decode cX13_reads 32 = .ok (.getfield 41, 3) := by decide +kernel
theorem dX13_reads_35 : decode cX13_reads 35 = .ok (.iload_n 2, 1) := by decide +kernel
theorem dX13_reads_36 : decode cX13_reads 36 = .ok (.iconst 0, 1) := by decide +kernel
theorem dX13_reads_37 : decode cX13_reads 37 = .ok (.bastore, 1) := by decide +kernel
theorem dX13_reads_38 : decode cX13_reads 38 = .ok (.iinc 2 1, 3) := by decide +kernel
theorem dX13_reads_41 : decode cX13_reads 41 = .ok (.goto (-17), 3) := by decide +kernel
theorem dX13_reads_44 : decode cX13_reads 44 = .ok (.iconst 0, 1) := by decide +kernel
theorem dX13_reads_45 : decode cX13_reads 45 = .ok (.istore_n 2, 1) := by decide +kernel
theorem dX13_reads_46 : decode cX13_reads 46 = .ok (.iload_n 2, 1) := by decide +kernel
theorem dX13_reads_47 : decode cX13_reads 47 = .ok (.iconst 5, 1) := by decide +kernel
theorem dX13_reads_48 : decode cX13_reads 48 = .ok (.if_icmp .ge 16, 3) := by decide +kernel
theorem dX13_reads_51 : decode cX13_reads 51 = .ok (.aload_n 0, 1) := by decide +kernel
theorem dX13_reads_52 : decode cX13_reads 52 = .ok (.getfield 45, 3) := by decide +kernel
theorem dX13_reads_55 : decode cX13_reads 55 = .ok (.iload_n 2, 1) := by decide +kernel
theorem dX13_reads_56 : decode cX13_reads 56 = .ok (.iconst (-1), 1) := by decide +kernel
theorem dX13_reads_57 : decode cX13_reads 57 = .ok (.iastore, 1) := by decide +kernel
theorem dX13_reads_58 : decode cX13_reads 58 = .ok (.iinc 2 1, 3) := by decide +kernel
theorem dX13_reads_61 : decode cX13_reads 61 = .ok (.goto (-15), 3) := by decide +kernel
theorem dX13_reads_64 : decode cX13_reads 64 = .ok (.aload_n 0, 1) := by decide +kernel
theorem dX13_reads_65 : decode cX13_reads 65 = .ok (.iconst 0, 1) := by decide +kernel
theorem dX13_reads_66 : decode cX13_reads 66 = .ok (.putfield 146, 3) := by decide +kernel
theorem dX13_reads_69 : decode cX13_reads 69 = .ok (.aload_n 0, 1) := by decide +kernel
theorem dX13_reads_70 : decode cX13_reads 70 = .ok (.iconst 0, 1) := by decide +kernel
theorem dX13_reads_71 : decode cX13_reads 71 = .ok (.putfield 173, 3) := by decide +kernel
theorem dX13_reads_74 : decode cX13_reads 74 = .ok (.aload_n 0, 1) := by decide +kernel
theorem dX13_reads_75 : decode cX13_reads 75 = .ok (.iconst 0, 1) := by decide +kernel
theorem dX13_reads_76 : decode cX13_reads 76 = .ok (.putfield 90, 3) := by decide +kernel
theorem dX13_reads_79 : decode cX13_reads 79 = .ok (.aload_n 0, 1) := by decide +kernel
theorem dX13_reads_80 : decode cX13_reads 80 = .ok (.iconst 0, 1) := by decide +kernel
theorem dX13_reads_81 : decode cX13_reads 81 = .ok (.putfield 112, 3) := by decide +kernel
theorem dX13_reads_84 : decode cX13_reads 84 = .ok (.aload_n 0, 1) := by decide +kernel
theorem dX13_reads_85 : decode cX13_reads 85 = .ok (.iconst 0, 1) := by decide +kernel
theorem dX13_reads_86 : decode cX13_reads 86 = .ok (.putfield 116, 3) := by decide +kernel
theorem dX13_reads_89 : decode cX13_reads 89 = .ok (.aload_n 0, 1) := by decide +kernel
theorem dX13_reads_90 : decode cX13_reads 90 = .ok (.iconst (-1), 1) := by decide +kernel
theorem dX13_reads_91 : decode cX13_reads 91 = .ok (.putfield 34, 3) := by decide +kernel
theorem dX13_reads_94 : decode cX13_reads 94 = .ok (.aload_n 0, 1) := by decide +kernel
theorem dX13_reads_95 : decode cX13_reads 95 = .ok (.invokevirtual 119, 3) := by decide +kernel
theorem dX13_reads_98 : decode cX13_reads 98 = .ok (.aload_n 0, 1) := by decide +kernel
theorem dX13_reads_99 : decode cX13_reads 99 = .ok (.getfield 112, 3) := by decide +kernel
theorem dX13_reads_102 : decode cX13_reads 102 = .ok (.ifCond .ne 18, 3) := by decide +kernel
theorem dX13_reads_105 : decode cX13_reads 105 = .ok (.aload_n 0, 1) := by decide +kernel
theorem dX13_reads_106 : decode cX13_reads 106 = .ok (.getfield 103, 3) := by decide +kernel
theorem dX13_reads_109 : decode cX13_reads 109 = .ok (.ifCond .eq 11, 3) := by decide +kernel
theorem dX13_reads_112 : decode cX13_reads 112 = .ok (.aload_n 0, 1) := by decide +kernel
theorem dX13_reads_113 : decode cX13_reads 113 = .ok (.iload_n 1, 1) := by decide +kernel
theorem dX13_reads_114 : decode cX13_reads 114 = .ok (.invokevirtual 176, 3) := by decide +kernel
theorem dX13_reads_117 : decode cX13_reads 117 = .ok (.goto (-19), 3) := by decide +kernel
theorem dX13_reads_120 : decode cX13_reads 120 = .ok (.aload_n 0, 1) := by decide +kernel
theorem dX13_reads_121 : decode cX13_reads 121 = .ok (.iconst 0, 1) := by decide +kernel
theorem dX13_reads_122 : decode cX13_reads 122 = .ok (.putfield 83, 3) := by decide +kernel
theorem dX13_reads_125 : decode cX13_reads 125 = .ok (.aload_n 0, 1) := by decide +kernel
theorem dX13_reads_126 : decode cX13_reads 126 = .ok (.getfield 112, 3) := by decide +kernel
theorem dX13_reads_129 : decode cX13_reads 129 = .ok (.ifCond .ne 7, 3) := by decide +kernel
theorem dX13_reads_132 : decode cX13_reads 132 = .ok (.iconst 1, 1) := by decide +kernel
theorem dX13_reads_133 : decode cX13_reads 133 = .ok (.goto 4, 3) := by decide +kernel
theorem dX13_reads_136 : decode cX13_reads 136 = .ok (.iconst 0, 1) := by decide +kernel
theorem dX13_reads_137 : decode cX13_reads 137 = .ok (.ireturn, 1) := by decide +kernel
theorem dX13_pool_0 : decode cX13_pool 0 = .ok (.aload_n 0, 1) := by decide +kernel
theorem dX13_pool_1 : decode cX13_pool 1 = .ok (.iconst 1, 1) := by decide +kernel
theorem dX13_pool_2 : decode cX13_pool 2 = .ok (.invokevirtual 180, 3) := by decide +kernel
theorem dX13_pool_5 : decode cX13_pool 5 = .ok (.ifCond .ne 6, 3) := by decide +kernel
theorem dX13_pool_8 : decode cX13_pool 8 = .ok (.bipush (-4), 2) := by decide +kernel
theorem dX13_pool_10 : decode cX13_pool 10 = .ok (.ireturn, 1) := by decide +kernel
theorem dX13_pool_11 : decode cX13_pool 11 = .ok (.aload_n 0, 1) := by decide +kernel
theorem dX13_pool_12 : decode cX13_pool 12 = .ok (.invokevirtual 74, 3) := by decide +kernel
theorem dX13_pool_15 : decode cX13_pool 15 = .ok (.iconst 0, 1) := by decide +kernel
theorem dX13_pool_16 : decode cX13_pool 16 = .ok (.istore_n 1, 1) := by decide +kernel
theorem dX13_pool_17 : decode cX13_pool 17 = .ok (.iload_n 1, 1) := by decide +kernel
theorem dX13_pool_18 : decode cX13_pool 18 = .ok (.sipush 3000, 3) := by decide +kernel
theorem dX13_pool_21 : decode cX13_pool 21 = .ok (.if_icmp .ge 21, 3) := by decide +kernel
theorem dX13_pool_24 : decode cX13_pool 24 = .ok (.aload_n 0, 1) := by decide +kernel
theorem dX13_pool_25 : decode cX13_pool 25 = .ok (.getfield 15, 3) := by decide +kernel
theorem dX13_pool_28 : decode cX13_pool 28 = .ok (.iload_n 1, 1) := by decide +kernel
theorem dX13_pool_29 : decode cX13_pool 29 = .ok (.aload_n 0, 1) := by decide +kernel
theorem dX13_pool_30 : decode cX13_pool 30 = .ok (.getfield 38, 3) := by decide +kernel
theorem dX13_pool_33 : decode cX13_pool 33 = .ok (.iload_n 1, 1) := by decide +kernel
theorem dX13_pool_34 : decode cX13_pool 34 = .ok (.iaload, 1) := by decide +kernel
theorem dX13_pool_35 : decode cX13_pool 35 = .ok (.iastore, 1) := by decide +kernel
theorem dX13_pool_36 : decode cX13_pool 36 = .ok (.iinc 1 1, 3) := by decide +kernel
theorem dX13_pool_39 : decode cX13_pool 39 = .ok (.goto (-22), 3) := by decide +kernel
theorem dX13_pool_42 : decode cX13_pool 42 = .ok (.iconst 0, 1) := by decide +kernel
theorem dX13_pool_43 : decode cX13_pool 43 = .ok (.istore_n 1, 1) := by decide +kernel
theorem dX13_pool_44 : decode cX13_pool 44 = .ok (.iload_n 1, 1) := by decide +kernel
theorem dX13_pool_45 : decode cX13_pool 45 = .ok (.iconst 5, 1) := by decide +kernel
theorem dX13_pool_46 : decode cX13_pool 46 = .ok (.if_icmp .ge 48, 3) := by decide +kernel
theorem dX13_pool_49 : decode cX13_pool 49 = .ok (.aload_n 0, 1) := by decide +kernel
theorem dX13_pool_50 : decode cX13_pool 50 = .ok (.getfield 15, 3) := by decide +kernel
theorem dX13_pool_53 : decode cX13_pool 53 = .ok (.sipush 3201, 3) := by decide +kernel
theorem dX13_pool_56 : decode cX13_pool 56 = .ok (.iload_n 1, 1) := by decide +kernel
theorem dX13_pool_57 : decode cX13_pool 57 = .ok (.iadd, 1) := by decide +kernel
theorem dX13_pool_58 : decode cX13_pool 58 = .ok (.aload_n 0, 1) := by decide +kernel
theorem dX13_pool_59 : decode cX13_pool 59 = .ok (.getfield 45, 3) := by decide +kernel
theorem dX13_pool_62 : decode cX13_pool 62 = .ok (.iload_n 1, 1) := by decide +kernel
theorem dX13_pool_63 : decode cX13_pool 63 = .ok (.iaload, 1) := by decide +kernel
theorem dX13_pool_64 : decode cX13_pool 64 = .ok (.iconst (-1), 1) := by decide +kernel
theorem dX13_pool_65 : decode cX13_pool 65 = .ok (.if_icmp .ne 16, 3) := by decide +kernel
theorem dX13_pool_68 : decode cX13_pool 68 = .ok (.aload_n 0, 1) := by decide +kernel
theorem dX13_pool_69 : decode cX13_pool 69 = .ok (.getfield 15, 3) := by decide +kernel
theorem dX13_pool_72 : decode cX13_pool 72 = .ok (.sipush 3201, 3) := by decide +kernel
theorem dX13_pool_75 : decode cX13_pool 75 = .ok (.iload_n 1, 1) := by decide +kernel
theorem dX13_pool_76 : decode cX13_pool 76 = .ok (.iadd, 1) := by decide +kernel
theorem dX13_pool_77 : decode cX13_pool 77 = .ok (.iaload, 1) := by decide +kernel
theorem dX13_pool_78 : decode cX13_pool 78 = .ok (.goto 9, 3) := by decide +kernel
theorem dX13_pool_81 : decode cX13_pool 81 = .ok (.aload_n 0, 1) := by decide +kernel
theorem dX13_pool_82 : decode cX13_pool 82 = .ok (.getfield 45, 3) := by decide +kernel
theorem dX13_pool_85 : decode cX13_pool 85 = .ok (.iload_n 1, 1) := by decide +kernel
theorem dX13_pool_86 : decode cX13_pool 86 = .ok (.iaload, 1) := by decide +kernel
theorem dX13_pool_87 : decode cX13_pool 87 = .ok (.iastore, 1) := by decide +kernel
theorem dX13_pool_88 : decode cX13_pool 88 = .ok (.iinc 1 1, 3) := by decide +kernel
theorem dX13_pool_91 : decode cX13_pool 91 = .ok (.goto (-47), 3) := by decide +kernel
theorem dX13_pool_94 : decode cX13_pool 94 = .ok (.aload_n 0, 1) := by decide +kernel
theorem dX13_pool_95 : decode cX13_pool 95 = .ok (.getfield 173, 3) := by decide +kernel
theorem dX13_pool_98 : decode cX13_pool 98 = .ok (.ireturn, 1) := by decide +kernel
theorem dX13_sample_0 : decode cX13_sample 0 = .ok (.aload_n 0, 1) := by decide +kernel
theorem dX13_sample_1 : decode cX13_sample 1 = .ok (.iconst 0, 1) := by decide +kernel
theorem dX13_sample_2 : decode cX13_sample 2 = .ok (.invokevirtual 180, 3) := by decide +kernel
theorem dX13_sample_5 : decode cX13_sample 5 = .ok (.ifCond .ne 6, 3) := by decide +kernel
theorem dX13_sample_8 : decode cX13_sample 8 = .ok (.bipush (-4), 2) := by decide +kernel
theorem dX13_sample_10 : decode cX13_sample 10 = .ok (.ireturn, 1) := by decide +kernel
theorem dX13_sample_11 : decode cX13_sample 11 = .ok (.iconst 0, 1) := by decide +kernel
theorem dX13_sample_12 : decode cX13_sample 12 = .ok (.istore_n 1, 1) := by decide +kernel
theorem dX13_sample_13 : decode cX13_sample 13 = .ok (.iload_n 1, 1) := by decide +kernel
theorem dX13_sample_14 : decode cX13_sample 14 = .ok (.sipush 1000, 3) := by decide +kernel
theorem dX13_sample_17 : decode cX13_sample 17 = .ok (.if_icmp .ge 34, 3) := by decide +kernel
theorem dX13_sample_20 : decode cX13_sample 20 = .ok (.aload_n 0, 1) := by decide +kernel
theorem dX13_sample_21 : decode cX13_sample 21 = .ok (.getfield 25, 3) := by decide +kernel
theorem dX13_sample_24 : decode cX13_sample 24 = .ok (.iload_n 1, 1) := by decide +kernel
theorem dX13_sample_25 : decode cX13_sample 25 = .ok (.aload_n 0, 1) := by decide +kernel
theorem dX13_sample_26 : decode cX13_sample 26 = .ok (.getfield 38, 3) := by decide +kernel
theorem dX13_sample_29 : decode cX13_sample 29 = .ok (.iconst 0, 1) := by decide +kernel
theorem dX13_sample_30 : decode cX13_sample 30 = .ok (.iload_n 1, 1) := by decide +kernel
theorem dX13_sample_31 : decode cX13_sample 31 = .ok (.iadd, 1) := by decide +kernel
theorem dX13_sample_32 : decode cX13_sample 32 = .ok (.iaload, 1) := by decide +kernel
theorem dX13_sample_33 : decode cX13_sample 33 = .ok (.aload_n 0, 1) := by decide +kernel
theorem dX13_sample_34 : decode cX13_sample 34 = .ok (.getfield 38, 3) := by decide +kernel
theorem dX13_sample_37 : decode cX13_sample 37 = .ok (.sipush 1000, 3) := by decide +kernel
theorem dX13_sample_40 : decode cX13_sample 40 = .ok (.iload_n 1, 1) := by decide +kernel
theorem dX13_sample_41 : decode cX13_sample 41 = .ok (.iadd, 1) := by decide +kernel
theorem dX13_sample_42 : decode cX13_sample 42 = .ok (.iaload, 1) := by decide +kernel
theorem dX13_sample_43 : decode cX13_sample 43 = .ok (.iadd, 1) := by decide +kernel
theorem dX13_sample_44 : decode cX13_sample 44 = .ok (.iastore, 1) := by decide +kernel
theorem dX13_sample_45 : decode cX13_sample 45 = .ok (.iinc 1 1, 3) := by decide +kernel
theorem dX13_sample_48 : decode cX13_sample 48 = .ok (.goto (-35), 3) := by decide +kernel
theorem dX13_sample_51 : decode cX13_sample 51 = .ok (.aload_n 0, 1) := by decide +kernel
theorem dX13_sample_52 : decode cX13_sample 52 = .ok (.getfield 25, 3) := by decide +kernel
theorem dX13_sample_55 : decode cX13_sample 55 = .ok (.iconst 0, 1) := by decide +kernel
theorem dX13_sample_56 : decode cX13_sample 56 = .ok (.invokestatic 184, 3) := by decide +kernel
theorem dX13_sample_59 : decode cX13_sample 59 = .ok (.ireturn, 1) := by decide +kernel
theorem dX13_casesOf_0 : decode cX13_casesOf 0 = .ok (.iconst 0, 1) := by decide +kernel
theorem dX13_casesOf_1 : decode cX13_casesOf 1 = .ok (.istore_n 2, 1) := by decide +kernel
theorem dX13_casesOf_2 : decode cX13_casesOf 2 = .ok (.iconst 0, 1) := by decide +kernel
theorem dX13_casesOf_3 : decode cX13_casesOf 3 = .ok (.istore_n 3, 1) := by decide +kernel
theorem dX13_casesOf_4 : decode cX13_casesOf 4 = .ok (.iload_n 3, 1) := by decide +kernel
theorem dX13_casesOf_5 : decode cX13_casesOf 5 = .ok (.sipush 1000, 3) := by decide +kernel
theorem dX13_casesOf_8 : decode cX13_casesOf 8 = .ok (.if_icmp .ge 17, 3) := by decide +kernel
theorem dX13_casesOf_11 : decode cX13_casesOf 11 = .ok (.iload_n 2, 1) := by decide +kernel
theorem dX13_casesOf_12 : decode cX13_casesOf 12 = .ok (.aload_n 0, 1) := by decide +kernel
theorem dX13_casesOf_13 : decode cX13_casesOf 13 = .ok (.iload_n 1, 1) := by decide +kernel
theorem dX13_casesOf_14 : decode cX13_casesOf 14 = .ok (.iload_n 3, 1) := by decide +kernel
theorem dX13_casesOf_15 : decode cX13_casesOf 15 = .ok (.iadd, 1) := by decide +kernel
theorem dX13_casesOf_16 : decode cX13_casesOf 16 = .ok (.iaload, 1) := by decide +kernel
theorem dX13_casesOf_17 : decode cX13_casesOf 17 = .ok (.iadd, 1) := by decide +kernel
theorem dX13_casesOf_18 : decode cX13_casesOf 18 = .ok (.istore_n 2, 1) := by decide +kernel
theorem dX13_casesOf_19 : decode cX13_casesOf 19 = .ok (.iinc 3 1, 3) := by decide +kernel
theorem dX13_casesOf_22 : decode cX13_casesOf 22 = .ok (.goto (-18), 3) := by decide +kernel
theorem dX13_casesOf_25 : decode cX13_casesOf 25 = .ok (.iload_n 2, 1) := by decide +kernel
theorem dX13_casesOf_26 : decode cX13_casesOf 26 = .ok (.ireturn, 1) := by decide +kernel
theorem dX13_fault_0 : decode cX13_fault 0 = .ok (.iload_n 1, 1) := by decide +kernel
theorem dX13_fault_1 : decode cX13_fault 1 = .ok (.ifCond .ne 10, 3) := by decide +kernel
theorem dX13_fault_4 : decode cX13_fault 4 = .ok (.aload_n 0, 1) := by decide +kernel
theorem dX13_fault_5 : decode cX13_fault 5 = .ok (.getfield 116, 3) := by decide +kernel
theorem dX13_fault_8 : decode cX13_fault 8 = .ok (.goto 16, 3) := by decide +kernel
theorem dX13_fault_11 : decode cX13_fault 11 = .ok (.iload_n 1, 1) := by decide +kernel
theorem dX13_fault_12 : decode cX13_fault 12 = .ok (.iconst 1, 1) := by decide +kernel
theorem dX13_fault_13 : decode cX13_fault 13 = .ok (.if_icmp .ne 10, 3) := by decide +kernel
theorem dX13_fault_16 : decode cX13_fault 16 = .ok (.aload_n 0, 1) := by decide +kernel
theorem dX13_fault_17 : decode cX13_fault 17 = .ok (.getfield 34, 3) := by decide +kernel
theorem dX13_fault_20 : decode cX13_fault 20 = .ok (.goto 4, 3) := by decide +kernel
theorem dX13_fault_23 : decode cX13_fault 23 = .ok (.iconst (-1), 1) := by decide +kernel
theorem dX13_fault_24 : decode cX13_fault 24 = .ok (.ireturn, 1) := by decide +kernel
theorem dX13_laysRows_0 : decode cX13_laysRows 0 = .ok (.aload_n 0, 1) := by decide +kernel
theorem dX13_laysRows_1 : decode cX13_laysRows 1 = .ok (.iconst 0, 1) := by decide +kernel
theorem dX13_laysRows_2 : decode cX13_laysRows 2 = .ok (.putfield 188, 3) := by decide +kernel
theorem dX13_laysRows_5 : decode cX13_laysRows 5 = .ok (.iconst 0, 1) := by decide +kernel
theorem dX13_laysRows_6 : decode cX13_laysRows 6 = .ok (.istore_n 1, 1) := by decide +kernel
theorem dX13_laysRows_7 : decode cX13_laysRows 7 = .ok (.iload_n 1, 1) := by decide +kernel
theorem dX13_laysRows_8 : decode cX13_laysRows 8 = .ok (.sipush 1000, 3) := by decide +kernel
theorem dX13_laysRows_11 : decode cX13_laysRows 11 = .ok (.if_icmp .ge 87, 3) := by decide +kernel
theorem dX13_laysRows_14 : decode cX13_laysRows 14 = .ok (.aload_n 0, 1) := by decide +kernel
theorem dX13_laysRows_15 : decode cX13_laysRows 15 = .ok (.getfield 15, 3) := by decide +kernel
theorem dX13_laysRows_18 : decode cX13_laysRows 18 = .ok (.iconst 0, 1) := by decide +kernel
theorem dX13_laysRows_19 : decode cX13_laysRows 19 = .ok (.iload_n 1, 1) := by decide +kernel
theorem dX13_laysRows_20 : decode cX13_laysRows 20 = .ok (.iadd, 1) := by decide +kernel
theorem dX13_laysRows_21 : decode cX13_laysRows 21 = .ok (.iaload, 1) := by decide +kernel
theorem dX13_laysRows_22 : decode cX13_laysRows 22 = .ok (.aload_n 0, 1) := by decide +kernel
theorem dX13_laysRows_23 : decode cX13_laysRows 23 = .ok (.getfield 15, 3) := by decide +kernel
theorem dX13_laysRows_26 : decode cX13_laysRows 26 = .ok (.sipush 1000, 3) := by decide +kernel
theorem dX13_laysRows_29 : decode cX13_laysRows 29 = .ok (.iload_n 1, 1) := by decide +kernel
theorem dX13_laysRows_30 : decode cX13_laysRows 30 = .ok (.iadd, 1) := by decide +kernel
theorem dX13_laysRows_31 : decode cX13_laysRows 31 = .ok (.iaload, 1) := by decide +kernel
theorem dX13_laysRows_32 : decode cX13_laysRows 32 = .ok (.iadd, 1) := by decide +kernel
theorem dX13_laysRows_33 : decode cX13_laysRows 33 = .ok (.ifCond .le 59, 3) := by decide +kernel
theorem dX13_laysRows_36 : decode cX13_laysRows 36 = .ok (.aload_n 0, 1) := by decide +kernel
theorem dX13_laysRows_37 : decode cX13_laysRows 37 = .ok (.getfield 48, 3) := by decide +kernel
theorem dX13_laysRows_40 : decode cX13_laysRows 40 = .ok (.aload_n 0, 1) := by decide +kernel
theorem dX13_laysRows_41 : decode cX13_laysRows 41 = .ok (.getfield 188, 3) := by decide +kernel
theorem dX13_laysRows_44 : decode cX13_laysRows 44 = .ok (.iload_n 1, 1) := by decide +kernel
theorem dX13_laysRows_45 : decode cX13_laysRows 45 = .ok (.iastore, 1) := by decide +kernel
theorem dX13_laysRows_46 : decode cX13_laysRows 46 = .ok (.aload_n 0, 1) := by decide +kernel
theorem dX13_laysRows_47 : decode cX13_laysRows 47 = .ok (.getfield 51, 3) := by decide +kernel
theorem dX13_laysRows_50 : decode cX13_laysRows 50 = .ok (.aload_n 0, 1) := by decide +kernel
theorem dX13_laysRows_51 : decode cX13_laysRows 51 = .ok (.getfield 188, 3) := by decide +kernel
theorem dX13_laysRows_54 : decode cX13_laysRows 54 = .ok (.aload_n 0, 1) := by decide +kernel
theorem dX13_laysRows_55 : decode cX13_laysRows 55 = .ok (.getfield 15, 3) := by decide +kernel
theorem dX13_laysRows_58 : decode cX13_laysRows 58 = .ok (.iconst 0, 1) := by decide +kernel
theorem dX13_laysRows_59 : decode cX13_laysRows 59 = .ok (.iload_n 1, 1) := by decide +kernel
theorem dX13_laysRows_60 : decode cX13_laysRows 60 = .ok (.iadd, 1) := by decide +kernel
theorem dX13_laysRows_61 : decode cX13_laysRows 61 = .ok (.iaload, 1) := by decide +kernel
theorem dX13_laysRows_62 : decode cX13_laysRows 62 = .ok (.iastore, 1) := by decide +kernel
theorem dX13_laysRows_63 : decode cX13_laysRows 63 = .ok (.aload_n 0, 1) := by decide +kernel
theorem dX13_laysRows_64 : decode cX13_laysRows 64 = .ok (.getfield 54, 3) := by decide +kernel
theorem dX13_laysRows_67 : decode cX13_laysRows 67 = .ok (.aload_n 0, 1) := by decide +kernel
theorem dX13_laysRows_68 : decode cX13_laysRows 68 = .ok (.getfield 188, 3) := by decide +kernel
theorem dX13_laysRows_71 : decode cX13_laysRows 71 = .ok (.aload_n 0, 1) := by decide +kernel
theorem dX13_laysRows_72 : decode cX13_laysRows 72 = .ok (.getfield 15, 3) := by decide +kernel
theorem dX13_laysRows_75 : decode cX13_laysRows 75 = .ok (.sipush 1000, 3) := by decide +kernel
theorem dX13_laysRows_78 : decode cX13_laysRows 78 = .ok (.iload_n 1, 1) := by decide +kernel
theorem dX13_laysRows_79 : decode cX13_laysRows 79 = .ok (.iadd, 1) := by decide +kernel
theorem dX13_laysRows_80 : decode cX13_laysRows 80 = .ok (.iaload, 1) := by decide +kernel
theorem dX13_laysRows_81 : decode cX13_laysRows 81 = .ok (.iastore, 1) := by decide +kernel
theorem dX13_laysRows_82 : decode cX13_laysRows 82 = .ok (.aload_n 0, 1) := by decide +kernel
theorem dX13_laysRows_83 : decode cX13_laysRows 83 = .ok (.dup, 1) := by decide +kernel
theorem dX13_laysRows_84 : decode cX13_laysRows 84 = .ok (.getfield 188, 3) := by decide +kernel
theorem dX13_laysRows_87 : decode cX13_laysRows 87 = .ok (.iconst 1, 1) := by decide +kernel
theorem dX13_laysRows_88 : decode cX13_laysRows 88 = .ok (.iadd, 1) := by decide +kernel
theorem dX13_laysRows_89 : decode cX13_laysRows 89 = .ok (.putfield 188, 3) := by decide +kernel
theorem dX13_laysRows_92 : decode cX13_laysRows 92 = .ok (.iinc 1 1, 3) := by decide +kernel
theorem dX13_laysRows_95 : decode cX13_laysRows 95 = .ok (.goto (-88), 3) := by decide +kernel
theorem dX13_laysRows_98 : decode cX13_laysRows 98 = .ok (.return_, 1) := by decide +kernel
theorem dX13_of_0 : decode cX13_of 0 = .ok (.lconst 0, 1) := by decide +kernel
theorem dX13_of_1 : decode cX13_of 1 = .ok (.lstore 4, 2) := by decide +kernel
theorem dX13_of_3 : decode cX13_of 3 = .ok (.iload_n 1, 1) := by decide +kernel
theorem dX13_of_4 : decode cX13_of 4 = .ok (.istore 6, 2) := by decide +kernel
theorem dX13_of_6 : decode cX13_of 6 = .ok (.iload 6, 2) := by decide +kernel
theorem dX13_of_8 : decode cX13_of 8 = .ok (.iload_n 2, 1) := by decide +kernel
theorem dX13_of_9 : decode cX13_of 9 = .ok (.if_icmp .ge 61, 3) := by decide +kernel
theorem dX13_of_12 : decode cX13_of 12 = .ok (.lload 4, 2) := by decide +kernel
theorem dX13_of_14 : decode cX13_of 14 = .ok (.iload_n 3, 1) := by decide +kernel
theorem dX13_of_15 : decode cX13_of 15 = .ok (.ifCond .ne 14, 3) := by decide +kernel
theorem dX13_of_18 : decode cX13_of 18 = .ok (.aload_n 0, 1) := by decide +kernel
theorem dX13_of_19 : decode cX13_of 19 = .ok (.getfield 51, 3) := by decide +kernel
theorem dX13_of_22 : decode cX13_of 22 = .ok (.iload 6, 2) := by decide +kernel
theorem dX13_of_24 : decode cX13_of 24 = .ok (.iaload, 1) := by decide +kernel
theorem dX13_of_25 : decode cX13_of 25 = .ok (.i2l, 1) := by decide +kernel
theorem dX13_of_26 : decode cX13_of 26 = .ok (.goto 35, 3) := by decide +kernel
theorem dX13_of_29 : decode cX13_of 29 = .ok (.iload_n 3, 1) := by decide +kernel
theorem dX13_of_30 : decode cX13_of 30 = .ok (.iconst 1, 1) := by decide +kernel
theorem dX13_of_31 : decode cX13_of 31 = .ok (.if_icmp .ne 14, 3) := by decide +kernel
theorem dX13_of_34 : decode cX13_of 34 = .ok (.aload_n 0, 1) := by decide +kernel
theorem dX13_of_35 : decode cX13_of 35 = .ok (.getfield 54, 3) := by decide +kernel
theorem dX13_of_38 : decode cX13_of 38 = .ok (.iload 6, 2) := by decide +kernel
theorem dX13_of_40 : decode cX13_of 40 = .ok (.iaload, 1) := by decide +kernel
theorem dX13_of_41 : decode cX13_of 41 = .ok (.i2l, 1) := by decide +kernel
theorem dX13_of_42 : decode cX13_of 42 = .ok (.goto 19, 3) := by decide +kernel
theorem dX13_of_45 : decode cX13_of 45 = .ok (.aload_n 0, 1) := by decide +kernel
theorem dX13_of_46 : decode cX13_of 46 = .ok (.getfield 51, 3) := by decide +kernel
theorem dX13_of_49 : decode cX13_of 49 = .ok (.iload 6, 2) := by decide +kernel
theorem dX13_of_51 : decode cX13_of 51 = .ok (.iaload, 1) := by decide +kernel
theorem dX13_of_52 : decode cX13_of 52 = .ok (.aload_n 0, 1) := by decide +kernel
theorem dX13_of_53 : decode cX13_of 53 = .ok (.getfield 54, 3) := by decide +kernel
theorem dX13_of_56 : decode cX13_of 56 = .ok (.iload 6, 2) := by decide +kernel
theorem dX13_of_58 : decode cX13_of 58 = .ok (.iaload, 1) := by decide +kernel
theorem dX13_of_59 : decode cX13_of 59 = .ok (.iadd, 1) := by decide +kernel
theorem dX13_of_60 : decode cX13_of 60 = .ok (.i2l, 1) := by decide +kernel
theorem dX13_of_61 : decode cX13_of 61 = .ok (.ladd, 1) := by decide +kernel
theorem dX13_of_62 : decode cX13_of 62 = .ok (.lstore 4, 2) := by decide +kernel
theorem dX13_of_64 : decode cX13_of 64 = .ok (.iinc 6 1, 3) := by decide +kernel
theorem dX13_of_67 : decode cX13_of 67 = .ok (.goto (-61), 3) := by decide +kernel
theorem dX13_of_70 : decode cX13_of 70 = .ok (.lload 4, 2) := by decide +kernel
theorem dX13_of_72 : decode cX13_of 72 = .ok (.lreturn, 1) := by decide +kernel
theorem dX13_ofBand_0 : decode cX13_ofBand 0 = .ok (.aload_n 0, 1) := by decide +kernel
theorem dX13_ofBand_1 : decode cX13_ofBand 1 = .ok (.aload_n 0, 1) := by decide +kernel
theorem dX13_ofBand_2 : decode cX13_ofBand 2 = .ok (.getfield 57, 3) := by decide +kernel
theorem dX13_ofBand_5 : decode cX13_ofBand 5 = .ok (.iload_n 1, 1) := by decide +kernel
theorem dX13_ofBand_6 : decode cX13_ofBand 6 = .ok (.iaload, 1) := by decide +kernel
theorem dX13_ofBand_7 : decode cX13_ofBand 7 = .ok (.aload_n 0, 1) := by decide +kernel
theorem dX13_ofBand_8 : decode cX13_ofBand 8 = .ok (.getfield 57, 3) := by decide +kernel
theorem dX13_ofBand_11 : decode cX13_ofBand 11 = .ok (.iload_n 1, 1) := by decide +kernel
theorem dX13_ofBand_12 : decode cX13_ofBand 12 = .ok (.iconst 1, 1) := by decide +kernel
theorem dX13_ofBand_13 : decode cX13_ofBand 13 = .ok (.iadd, 1) := by decide +kernel
theorem dX13_ofBand_14 : decode cX13_ofBand 14 = .ok (.iaload, 1) := by decide +kernel
theorem dX13_ofBand_15 : decode cX13_ofBand 15 = .ok (.iload_n 2, 1) := by decide +kernel
theorem dX13_ofBand_16 : decode cX13_ofBand 16 = .ok (.invokevirtual 191, 3) := by decide +kernel
theorem dX13_ofBand_19 : decode cX13_ofBand 19 = .ok (.lreturn, 1) := by decide +kernel
theorem dX13_joins_0 : decode cX13_joins 0 = .ok (.iload_n 1, 1) := by decide +kernel
theorem dX13_joins_1 : decode cX13_joins 1 = .ok (.iconst 1, 1) := by decide +kernel
theorem dX13_joins_2 : decode cX13_joins 2 = .ok (.iadd, 1) := by decide +kernel
theorem dX13_joins_3 : decode cX13_joins 3 = .ok (.istore_n 2, 1) := by decide +kernel
theorem dX13_joins_4 : decode cX13_joins 4 = .ok (.iload_n 2, 1) := by decide +kernel
theorem dX13_joins_5 : decode cX13_joins 5 = .ok (.aload_n 0, 1) := by decide +kernel
theorem dX13_joins_6 : decode cX13_joins 6 = .ok (.getfield 195, 3) := by decide +kernel
theorem dX13_joins_9 : decode cX13_joins 9 = .ok (.if_icmp .ge 23, 3) := by decide +kernel
theorem dX13_joins_12 : decode cX13_joins 12 = .ok (.aload_n 0, 1) := by decide +kernel
theorem dX13_joins_13 : decode cX13_joins 13 = .ok (.getfield 57, 3) := by decide +kernel
theorem dX13_joins_16 : decode cX13_joins 16 = .ok (.iload_n 2, 1) := by decide +kernel
theorem dX13_joins_17 : decode cX13_joins 17 = .ok (.aload_n 0, 1) := by decide +kernel
theorem dX13_joins_18 : decode cX13_joins 18 = .ok (.getfield 57, 3) := by decide +kernel
theorem dX13_joins_21 : decode cX13_joins 21 = .ok (.iload_n 2, 1) := by decide +kernel
theorem dX13_joins_22 : decode cX13_joins 22 = .ok (.iconst 1, 1) := by decide +kernel
theorem dX13_joins_23 : decode cX13_joins 23 = .ok (.iadd, 1) := by decide +kernel
theorem dX13_joins_24 : decode cX13_joins 24 = .ok (.iaload, 1) := by decide +kernel
theorem dX13_joins_25 : decode cX13_joins 25 = .ok (.iastore, 1) := by decide +kernel
theorem dX13_joins_26 : decode cX13_joins 26 = .ok (.iinc 2 1, 3) := by decide +kernel
theorem dX13_joins_29 : decode cX13_joins 29 = .ok (.goto (-25), 3) := by decide +kernel
theorem dX13_joins_32 : decode cX13_joins 32 = .ok (.aload_n 0, 1) := by decide +kernel
theorem dX13_joins_33 : decode cX13_joins 33 = .ok (.dup, 1) := by decide +kernel
theorem dX13_joins_34 : decode cX13_joins 34 = .ok (.getfield 195, 3) := by decide +kernel
theorem dX13_joins_37 : decode cX13_joins 37 = .ok (.iconst 1, 1) := by decide +kernel
theorem dX13_joins_38 : decode cX13_joins 38 = .ok (.isub, 1) := by decide +kernel
theorem dX13_joins_39 : decode cX13_joins 39 = .ok (.putfield 195, 3) := by decide +kernel
theorem dX13_joins_42 : decode cX13_joins 42 = .ok (.return_, 1) := by decide +kernel
theorem dX13_isNoLesser_0 : decode cX13_isNoLesser 0 = .ok (.aload_n 0, 1) := by decide +kernel
theorem dX13_isNoLesser_1 : decode cX13_isNoLesser 1 = .ok (.iload_n 1, 1) := by decide +kernel
theorem dX13_isNoLesser_2 : decode cX13_isNoLesser 2 = .ok (.iconst 1, 1) := by decide +kernel
theorem dX13_isNoLesser_3 : decode cX13_isNoLesser 3 = .ok (.iadd, 1) := by decide +kernel
theorem dX13_isNoLesser_4 : decode cX13_isNoLesser 4 = .ok (.iconst 1, 1) := by decide +kernel
theorem dX13_isNoLesser_5 : decode cX13_isNoLesser 5 = .ok (.invokevirtual 198, 3) := by decide +kernel
theorem dX13_isNoLesser_8 : decode cX13_isNoLesser 8 = .ok (.aload_n 0, 1) := by decide +kernel
theorem dX13_isNoLesser_9 : decode cX13_isNoLesser 9 = .ok (.iload_n 1, 1) := by decide +kernel
theorem dX13_isNoLesser_10 : decode cX13_isNoLesser 10 = .ok (.iconst 2, 1) := by decide +kernel
theorem dX13_isNoLesser_11 : decode cX13_isNoLesser 11 = .ok (.invokevirtual 198, 3) := by decide +kernel
theorem dX13_isNoLesser_14 : decode cX13_isNoLesser 14 = .ok (.lmul, 1) := by decide +kernel
theorem dX13_isNoLesser_15 : decode cX13_isNoLesser 15 = .ok (.aload_n 0, 1) := by decide +kernel
theorem dX13_isNoLesser_16 : decode cX13_isNoLesser 16 = .ok (.iload_n 1, 1) := by decide +kernel
theorem dX13_isNoLesser_17 : decode cX13_isNoLesser 17 = .ok (.iconst 1, 1) := by decide +kernel
theorem dX13_isNoLesser_18 : decode cX13_isNoLesser 18 = .ok (.invokevirtual 198, 3) := by decide +kernel
theorem dX13_isNoLesser_21 : decode cX13_isNoLesser 21 = .ok (.aload_n 0, 1) := by decide +kernel
theorem dX13_isNoLesser_22 : decode cX13_isNoLesser 22 = .ok (.iload_n 1, 1) := by decide +kernel
theorem dX13_isNoLesser_23 : decode cX13_isNoLesser 23 = .ok (.iconst 1, 1) := by decide +kernel
theorem dX13_isNoLesser_24 : decode cX13_isNoLesser 24 = .ok (.iadd, 1) := by decide +kernel
theorem dX13_isNoLesser_25 : decode cX13_isNoLesser 25 = .ok (.iconst 2, 1) := by decide +kernel
theorem dX13_isNoLesser_26 : decode cX13_isNoLesser 26 = .ok (.invokevirtual 198, 3) := by decide +kernel
theorem dX13_isNoLesser_29 : decode cX13_isNoLesser 29 = .ok (.lmul, 1) := by decide +kernel
theorem dX13_isNoLesser_30 : decode cX13_isNoLesser 30 = .ok (.lcmp, 1) := by decide +kernel
theorem dX13_isNoLesser_31 : decode cX13_isNoLesser 31 = .ok (.ifCond .lt 7, 3) := by decide +kernel
theorem dX13_isNoLesser_34 : decode cX13_isNoLesser 34 = .ok (.iconst 1, 1) := by decide +kernel
theorem dX13_isNoLesser_35 : decode cX13_isNoLesser 35 = .ok (.goto 4, 3) := by decide +kernel
theorem dX13_isNoLesser_38 : decode cX13_isNoLesser 38 = .ok (.iconst 0, 1) := by decide +kernel
theorem dX13_isNoLesser_39 : decode cX13_isNoLesser 39 = .ok (.ireturn, 1) := by decide +kernel
theorem dX13_laysPure_0 : decode cX13_laysPure 0 = .ok (.aload_n 0, 1) := by decide +kernel
theorem dX13_laysPure_1 : decode cX13_laysPure 1 = .ok (.aload_n 0, 1) := by decide +kernel
theorem dX13_laysPure_2 : decode cX13_laysPure 2 = .ok (.getfield 188, 3) := by decide +kernel
theorem dX13_laysPure_5 : decode cX13_laysPure 5 = .ok (.putfield 195, 3) := by decide +kernel
theorem dX13_laysPure_8 : decode cX13_laysPure 8 = .ok (.iconst 0, 1) := by decide +kernel
theorem dX13_laysPure_9 : decode cX13_laysPure 9 = .ok (.istore_n 1, 1) := by decide +kernel
theorem dX13_laysPure_10 : decode cX13_laysPure 10 = .ok (.iload_n 1, 1) := by decide +kernel
theorem dX13_laysPure_11 : decode cX13_laysPure 11 = .ok (.aload_n 0, 1) := by decide +kernel
theorem dX13_laysPure_12 : decode cX13_laysPure 12 = .ok (.getfield 188, 3) := by decide +kernel
theorem dX13_laysPure_15 : decode cX13_laysPure 15 = .ok (.if_icmp .gt 16, 3) := by decide +kernel
theorem dX13_laysPure_18 : decode cX13_laysPure 18 = .ok (.aload_n 0, 1) := by decide +kernel
theorem dX13_laysPure_19 : decode cX13_laysPure 19 = .ok (.getfield 57, 3) := by decide +kernel
theorem dX13_laysPure_22 : decode cX13_laysPure 22 = .ok (.iload_n 1, 1) := by decide +kernel
theorem dX13_laysPure_23 : decode cX13_laysPure 23 = .ok (.iload_n 1, 1) := by decide +kernel
theorem dX13_laysPure_24 : decode cX13_laysPure 24 = .ok (.iastore, 1) := by decide +kernel
theorem dX13_laysPure_25 : decode cX13_laysPure 25 = .ok (.iinc 1 1, 3) := by decide +kernel
theorem dX13_laysPure_28 : decode cX13_laysPure 28 = .ok (.goto (-18), 3) := by decide +kernel
theorem dX13_laysPure_31 : decode cX13_laysPure 31 = .ok (.iconst 1, 1) := by decide +kernel
theorem dX13_laysPure_32 : decode cX13_laysPure 32 = .ok (.istore_n 1, 1) := by decide +kernel
theorem dX13_laysPure_33 : decode cX13_laysPure 33 = .ok (.iload_n 1, 1) := by decide +kernel
theorem dX13_laysPure_34 : decode cX13_laysPure 34 = .ok (.ifCond .eq 57, 3) := by decide +kernel
theorem dX13_laysPure_37 : decode cX13_laysPure 37 = .ok (.iconst 0, 1) := by decide +kernel
theorem dX13_laysPure_38 : decode cX13_laysPure 38 = .ok (.istore_n 2, 1) := by decide +kernel
theorem dX13_laysPure_39 : decode cX13_laysPure 39 = .ok (.iload_n 2, 1) := by decide +kernel
theorem dX13_laysPure_40 : decode cX13_laysPure 40 = .ok (.iconst 1, 1) := by decide +kernel
theorem dX13_laysPure_41 : decode cX13_laysPure 41 = .ok (.iadd, 1) := by decide +kernel
theorem dX13_laysPure_42 : decode cX13_laysPure 42 = .ok (.aload_n 0, 1) := by decide +kernel
theorem dX13_laysPure_43 : decode cX13_laysPure 43 = .ok (.getfield 195, 3) := by decide +kernel
theorem dX13_laysPure_46 : decode cX13_laysPure 46 = .ok (.if_icmp .ge 17, 3) := by decide +kernel
theorem dX13_laysPure_49 : decode cX13_laysPure 49 = .ok (.aload_n 0, 1) := by decide +kernel
theorem dX13_laysPure_50 : decode cX13_laysPure 50 = .ok (.iload_n 2, 1) := by decide +kernel
theorem dX13_laysPure_51 : decode cX13_laysPure 51 = .ok (.invokevirtual 202, 3) := by decide +kernel
theorem dX13_laysPure_54 : decode cX13_laysPure 54 = .ok (.ifCond .ne 9, 3) := by decide +kernel
theorem dX13_laysPure_57 : decode cX13_laysPure 57 = .ok (.iinc 2 1, 3) := by decide +kernel
theorem dX13_laysPure_60 : decode cX13_laysPure 60 = .ok (.goto (-21), 3) := by decide +kernel
theorem dX13_laysPure_63 : decode cX13_laysPure 63 = .ok (.iload_n 2, 1) := by decide +kernel
theorem dX13_laysPure_64 : decode cX13_laysPure 64 = .ok (.iconst 1, 1) := by decide +kernel
theorem dX13_laysPure_65 : decode cX13_laysPure 65 = .ok (.iadd, 1) := by decide +kernel
theorem dX13_laysPure_66 : decode cX13_laysPure 66 = .ok (.aload_n 0, 1) := by decide +kernel
theorem dX13_laysPure_67 : decode cX13_laysPure 67 = .ok (.getfield 195, 3) := by decide +kernel
theorem dX13_laysPure_70 : decode cX13_laysPure 70 = .ok (.if_icmp .ge 7, 3) := by decide +kernel
theorem dX13_laysPure_73 : decode cX13_laysPure 73 = .ok (.iconst 1, 1) := by decide +kernel
theorem dX13_laysPure_74 : decode cX13_laysPure 74 = .ok (.goto 4, 3) := by decide +kernel
theorem dX13_laysPure_77 : decode cX13_laysPure 77 = .ok (.iconst 0, 1) := by decide +kernel
theorem dX13_laysPure_78 : decode cX13_laysPure 78 = .ok (.istore_n 1, 1) := by decide +kernel
theorem dX13_laysPure_79 : decode cX13_laysPure 79 = .ok (.iload_n 1, 1) := by decide +kernel
theorem dX13_laysPure_80 : decode cX13_laysPure 80 = .ok (.ifCond .eq 8, 3) := by decide +kernel
theorem dX13_laysPure_83 : decode cX13_laysPure 83 = .ok (.aload_n 0, 1) := by decide +kernel
theorem dX13_laysPure_84 : decode cX13_laysPure 84 = .ok (.iload_n 2, 1) := by decide +kernel
theorem dX13_laysPure_85 : decode cX13_laysPure 85 = .ok (.invokevirtual 206, 3) := by decide +kernel
theorem dX13_laysPure_88 : decode cX13_laysPure 88 = .ok (.goto (-55), 3) := by decide +kernel
theorem dX13_laysPure_91 : decode cX13_laysPure 91 = .ok (.return_, 1) := by decide +kernel
theorem dX13_fewest_0 : decode cX13_fewest 0 = .ok (.iconst 0, 1) := by decide +kernel
theorem dX13_fewest_1 : decode cX13_fewest 1 = .ok (.istore_n 1, 1) := by decide +kernel
theorem dX13_fewest_2 : decode cX13_fewest 2 = .ok (.iconst 1, 1) := by decide +kernel
theorem dX13_fewest_3 : decode cX13_fewest 3 = .ok (.istore_n 2, 1) := by decide +kernel
theorem dX13_fewest_4 : decode cX13_fewest 4 = .ok (.iload_n 2, 1) := by decide +kernel
theorem dX13_fewest_5 : decode cX13_fewest 5 = .ok (.aload_n 0, 1) := by decide +kernel
theorem dX13_fewest_6 : decode cX13_fewest 6 = .ok (.getfield 195, 3) := by decide +kernel
theorem dX13_fewest_9 : decode cX13_fewest 9 = .ok (.if_icmp .ge 31, 3) := by decide +kernel
theorem dX13_fewest_12 : decode cX13_fewest 12 = .ok (.aload_n 0, 1) := by decide +kernel
theorem dX13_fewest_13 : decode cX13_fewest 13 = .ok (.iload_n 2, 1) := by decide +kernel
theorem dX13_fewest_14 : decode cX13_fewest 14 = .ok (.iconst 2, 1) := by decide +kernel
theorem dX13_fewest_15 : decode cX13_fewest 15 = .ok (.invokevirtual 198, 3) := by decide +kernel
theorem dX13_fewest_18 : decode cX13_fewest 18 = .ok (.aload_n 0, 1) := by decide +kernel
theorem dX13_fewest_19 : decode cX13_fewest 19 = .ok (.iload_n 1, 1) := by decide +kernel
theorem dX13_fewest_20 : decode cX13_fewest 20 = .ok (.iconst 2, 1) := by decide +kernel
theorem dX13_fewest_21 : decode cX13_fewest 21 = .ok (.invokevirtual 198, 3) := by decide +kernel
theorem dX13_fewest_24 : decode cX13_fewest 24 = .ok (.lcmp, 1) := by decide +kernel
theorem dX13_fewest_25 : decode cX13_fewest 25 = .ok (.ifCond .ge 7, 3) := by decide +kernel
theorem dX13_fewest_28 : decode cX13_fewest 28 = .ok (.iload_n 2, 1) := by decide +kernel
theorem dX13_fewest_29 : decode cX13_fewest 29 = .ok (.goto 4, 3) := by decide +kernel
theorem dX13_fewest_32 : decode cX13_fewest 32 = .ok (.iload_n 1, 1) := by decide +kernel
theorem dX13_fewest_33 : decode cX13_fewest 33 = .ok (.istore_n 1, 1) := by decide +kernel
theorem dX13_fewest_34 : decode cX13_fewest 34 = .ok (.iinc 2 1, 3) := by decide +kernel
theorem dX13_fewest_37 : decode cX13_fewest 37 = .ok (.goto (-33), 3) := by decide +kernel
theorem dX13_fewest_40 : decode cX13_fewest 40 = .ok (.iload_n 1, 1) := by decide +kernel
theorem dX13_fewest_41 : decode cX13_fewest 41 = .ok (.ireturn, 1) := by decide +kernel
theorem dX13_farAbove_0 : decode cX13_farAbove 0 = .ok (.aload_n 0, 1) := by decide +kernel
theorem dX13_farAbove_1 : decode cX13_farAbove 1 = .ok (.iload_n 1, 1) := by decide +kernel
theorem dX13_farAbove_2 : decode cX13_farAbove 2 = .ok (.iconst 1, 1) := by decide +kernel
theorem dX13_farAbove_3 : decode cX13_farAbove 3 = .ok (.invokevirtual 198, 3) := by decide +kernel
theorem dX13_farAbove_6 : decode cX13_farAbove 6 = .ok (.aload_n 0, 1) := by decide +kernel
theorem dX13_farAbove_7 : decode cX13_farAbove 7 = .ok (.iload_n 1, 1) := by decide +kernel
theorem dX13_farAbove_8 : decode cX13_farAbove 8 = .ok (.iconst 1, 1) := by decide +kernel
theorem dX13_farAbove_9 : decode cX13_farAbove 9 = .ok (.iadd, 1) := by decide +kernel
theorem dX13_farAbove_10 : decode cX13_farAbove 10 = .ok (.iconst 2, 1) := by decide +kernel
theorem dX13_farAbove_11 : decode cX13_farAbove 11 = .ok (.invokevirtual 198, 3) := by decide +kernel
theorem dX13_farAbove_14 : decode cX13_farAbove 14 = .ok (.lmul, 1) := by decide +kernel
theorem dX13_farAbove_15 : decode cX13_farAbove 15 = .ok (.aload_n 0, 1) := by decide +kernel
theorem dX13_farAbove_16 : decode cX13_farAbove 16 = .ok (.iload_n 1, 1) := by decide +kernel
theorem dX13_farAbove_17 : decode cX13_farAbove 17 = .ok (.iconst 1, 1) := by decide +kernel
theorem dX13_farAbove_18 : decode cX13_farAbove 18 = .ok (.iadd, 1) := by decide +kernel
theorem dX13_farAbove_19 : decode cX13_farAbove 19 = .ok (.iconst 1, 1) := by decide +kernel
theorem dX13_farAbove_20 : decode cX13_farAbove 20 = .ok (.invokevirtual 198, 3) := by decide +kernel
theorem dX13_farAbove_23 : decode cX13_farAbove 23 = .ok (.aload_n 0, 1) := by decide +kernel
theorem dX13_farAbove_24 : decode cX13_farAbove 24 = .ok (.iload_n 1, 1) := by decide +kernel
theorem dX13_farAbove_25 : decode cX13_farAbove 25 = .ok (.iconst 2, 1) := by decide +kernel
theorem dX13_farAbove_26 : decode cX13_farAbove 26 = .ok (.invokevirtual 198, 3) := by decide +kernel
theorem dX13_farAbove_29 : decode cX13_farAbove 29 = .ok (.lmul, 1) := by decide +kernel
theorem dX13_farAbove_30 : decode cX13_farAbove 30 = .ok (.lsub, 1) := by decide +kernel
theorem dX13_farAbove_31 : decode cX13_farAbove 31 = .ok (.lstore_n 2, 1) := by decide +kernel
theorem dX13_farAbove_32 : decode cX13_farAbove 32 = .ok (.lload_n 2, 1) := by decide +kernel
theorem dX13_farAbove_33 : decode cX13_farAbove 33 = .ok (.lconst 0, 1) := by decide +kernel
theorem dX13_farAbove_34 : decode cX13_farAbove 34 = .ok (.lcmp, 1) := by decide +kernel
theorem dX13_farAbove_35 : decode cX13_farAbove 35 = .ok (.ifCond .ge 8, 3) := by decide +kernel
theorem dX13_farAbove_38 : decode cX13_farAbove 38 = .ok (.lload_n 2, 1) := by decide +kernel
theorem dX13_farAbove_39 : decode cX13_farAbove 39 = .ok (.lneg, 1) := by decide +kernel
theorem dX13_farAbove_40 : decode cX13_farAbove 40 = .ok (.goto 4, 3) := by decide +kernel
theorem dX13_farAbove_43 : decode cX13_farAbove 43 = .ok (.lload_n 2, 1) := by decide +kernel
theorem dX13_farAbove_44 : decode cX13_farAbove 44 = .ok (.lreturn, 1) := by decide +kernel
theorem dX13_farBelow_0 : decode cX13_farBelow 0 = .ok (.aload_n 0, 1) := by decide +kernel
theorem dX13_farBelow_1 : decode cX13_farBelow 1 = .ok (.iload_n 1, 1) := by decide +kernel
theorem dX13_farBelow_2 : decode cX13_farBelow 2 = .ok (.iconst 2, 1) := by decide +kernel
theorem dX13_farBelow_3 : decode cX13_farBelow 3 = .ok (.invokevirtual 198, 3) := by decide +kernel
theorem dX13_farBelow_6 : decode cX13_farBelow 6 = .ok (.aload_n 0, 1) := by decide +kernel
theorem dX13_farBelow_7 : decode cX13_farBelow 7 = .ok (.iload_n 1, 1) := by decide +kernel
theorem dX13_farBelow_8 : decode cX13_farBelow 8 = .ok (.iconst 1, 1) := by decide +kernel
theorem dX13_farBelow_9 : decode cX13_farBelow 9 = .ok (.iadd, 1) := by decide +kernel
theorem dX13_farBelow_10 : decode cX13_farBelow 10 = .ok (.iconst 2, 1) := by decide +kernel
theorem dX13_farBelow_11 : decode cX13_farBelow 11 = .ok (.invokevirtual 198, 3) := by decide +kernel
theorem dX13_farBelow_14 : decode cX13_farBelow 14 = .ok (.lmul, 1) := by decide +kernel
theorem dX13_farBelow_15 : decode cX13_farBelow 15 = .ok (.lreturn, 1) := by decide +kernel
theorem dX13_joinedAt_0 : decode cX13_joinedAt 0 = .ok (.iload_n 1, 1) := by decide +kernel
theorem dX13_joinedAt_1 : decode cX13_joinedAt 1 = .ok (.ifCond .eq 13, 3) := by decide +kernel
theorem dX13_joinedAt_4 : decode cX13_joinedAt 4 = .ok (.iload_n 1, 1) := by decide +kernel
theorem dX13_joinedAt_5 : decode cX13_joinedAt 5 = .ok (.aload_n 0, 1) := by decide +kernel
theorem dX13_joinedAt_6 : decode cX13_joinedAt 6 = .ok (.getfield 195, 3) := by decide +kernel
theorem dX13_joinedAt_9 : decode cX13_joinedAt 9 = .ok (.iconst 1, 1) := by decide +kernel
theorem dX13_joinedAt_10 : decode cX13_joinedAt 10 = .ok (.isub, 1) := by decide +kernel
theorem dX13_joinedAt_11 : decode cX13_joinedAt 11 = .ok (.if_icmp .ne 15, 3) := by decide +kernel
theorem dX13_joinedAt_14 : decode cX13_joinedAt 14 = .ok (.iload_n 1, 1) := by decide +kernel
theorem dX13_joinedAt_15 : decode cX13_joinedAt 15 = .ok (.ifCond .ne 7, 3) := by decide +kernel
theorem dX13_joinedAt_18 : decode cX13_joinedAt 18 = .ok (.iconst 0, 1) := by decide +kernel
theorem dX13_joinedAt_19 : decode cX13_joinedAt 19 = .ok (.goto 6, 3) := by decide +kernel
theorem dX13_joinedAt_22 : decode cX13_joinedAt 22 = .ok (.iload_n 1, 1) := by decide +kernel
theorem dX13_joinedAt_23 : decode cX13_joinedAt 23 = .ok (.iconst 1, 1) := by decide +kernel
theorem dX13_joinedAt_24 : decode cX13_joinedAt 24 = .ok (.isub, 1) := by decide +kernel
theorem dX13_joinedAt_25 : decode cX13_joinedAt 25 = .ok (.ireturn, 1) := by decide +kernel
theorem dX13_joinedAt_26 : decode cX13_joinedAt 26 = .ok (.aload_n 0, 1) := by decide +kernel
theorem dX13_joinedAt_27 : decode cX13_joinedAt 27 = .ok (.iload_n 1, 1) := by decide +kernel
theorem dX13_joinedAt_28 : decode cX13_joinedAt 28 = .ok (.iconst 1, 1) := by decide +kernel
theorem dX13_joinedAt_29 : decode cX13_joinedAt 29 = .ok (.isub, 1) := by decide +kernel
theorem dX13_joinedAt_30 : decode cX13_joinedAt 30 = .ok (.invokevirtual 209, 3) := by decide +kernel
theorem dX13_joinedAt_33 : decode cX13_joinedAt 33 = .ok (.aload_n 0, 1) := by decide +kernel
theorem dX13_joinedAt_34 : decode cX13_joinedAt 34 = .ok (.iload_n 1, 1) := by decide +kernel
theorem dX13_joinedAt_35 : decode cX13_joinedAt 35 = .ok (.invokevirtual 213, 3) := by decide +kernel
theorem dX13_joinedAt_38 : decode cX13_joinedAt 38 = .ok (.lmul, 1) := by decide +kernel
theorem dX13_joinedAt_39 : decode cX13_joinedAt 39 = .ok (.aload_n 0, 1) := by decide +kernel
theorem dX13_joinedAt_40 : decode cX13_joinedAt 40 = .ok (.iload_n 1, 1) := by decide +kernel
theorem dX13_joinedAt_41 : decode cX13_joinedAt 41 = .ok (.invokevirtual 209, 3) := by decide +kernel
theorem dX13_joinedAt_44 : decode cX13_joinedAt 44 = .ok (.aload_n 0, 1) := by decide +kernel
theorem dX13_joinedAt_45 : decode cX13_joinedAt 45 = .ok (.iload_n 1, 1) := by decide +kernel
theorem dX13_joinedAt_46 : decode cX13_joinedAt 46 = .ok (.iconst 1, 1) := by decide +kernel
theorem dX13_joinedAt_47 : decode cX13_joinedAt 47 = .ok (.isub, 1) := by decide +kernel
theorem dX13_joinedAt_48 : decode cX13_joinedAt 48 = .ok (.invokevirtual 213, 3) := by decide +kernel
theorem dX13_joinedAt_51 : decode cX13_joinedAt 51 = .ok (.lmul, 1) := by decide +kernel
theorem dX13_joinedAt_52 : decode cX13_joinedAt 52 = .ok (.lcmp, 1) := by decide +kernel
theorem dX13_joinedAt_53 : decode cX13_joinedAt 53 = .ok (.ifCond .gt 9, 3) := by decide +kernel
theorem dX13_joinedAt_56 : decode cX13_joinedAt 56 = .ok (.iload_n 1, 1) := by decide +kernel
theorem dX13_joinedAt_57 : decode cX13_joinedAt 57 = .ok (.iconst 1, 1) := by decide +kernel
theorem dX13_joinedAt_58 : decode cX13_joinedAt 58 = .ok (.isub, 1) := by decide +kernel
theorem dX13_joinedAt_59 : decode cX13_joinedAt 59 = .ok (.goto 4, 3) := by decide +kernel
theorem dX13_joinedAt_62 : decode cX13_joinedAt 62 = .ok (.iload_n 1, 1) := by decide +kernel
theorem dX13_joinedAt_63 : decode cX13_joinedAt 63 = .ok (.ireturn, 1) := by decide +kernel
theorem dX13_isLess_0 : decode cX13_isLess 0 = .ok (.lload_n 0, 1) := by decide +kernel
theorem dX13_isLess_1 : decode cX13_isLess 1 = .ok (.lload_n 2, 1) := by decide +kernel
theorem dX13_isLess_2 : decode cX13_isLess 2 = .ok (.invokestatic 216, 3) := by decide +kernel
theorem dX13_isLess_5 : decode cX13_isLess 5 = .ok (.lstore 8, 2) := by decide +kernel
theorem dX13_isLess_7 : decode cX13_isLess 7 = .ok (.lload 4, 2) := by decide +kernel
theorem dX13_isLess_9 : decode cX13_isLess 9 = .ok (.lload 6, 2) := by decide +kernel
theorem dX13_isLess_11 : decode cX13_isLess 11 = .ok (.invokestatic 216, 3) := by decide +kernel
theorem dX13_isLess_14 : decode cX13_isLess 14 = .ok (.lstore 10, 2) := by decide +kernel
theorem dX13_isLess_16 : decode cX13_isLess 16 = .ok (.lload 8, 2) := by decide +kernel
theorem dX13_isLess_18 : decode cX13_isLess 18 = .ok (.lload 10, 2) := by decide +kernel
theorem dX13_isLess_20 : decode cX13_isLess 20 = .ok (.lcmp, 1) := by decide +kernel
theorem dX13_isLess_21 : decode cX13_isLess 21 = .ok (.ifCond .eq 19, 3) := by decide +kernel
theorem dX13_isLess_24 : decode cX13_isLess 24 = .ok (.lload 8, 2) := by decide +kernel
theorem dX13_isLess_26 : decode cX13_isLess 26 = .ok (.lload 10, 2) := by decide +kernel
theorem dX13_isLess_28 : decode cX13_isLess 28 = .ok (.lcmp, 1) := by decide +kernel
theorem dX13_isLess_29 : decode cX13_isLess 29 = .ok (.ifCond .ge 7, 3) := by decide +kernel
theorem dX13_isLess_32 : decode cX13_isLess 32 = .ok (.iconst 1, 1) := by decide +kernel
theorem dX13_isLess_33 : decode cX13_isLess 33 = .ok (.goto 26, 3) := by decide +kernel
theorem dX13_isLess_36 : decode cX13_isLess 36 = .ok (.iconst 0, 1) := by decide +kernel
theorem dX13_isLess_37 : decode cX13_isLess 37 = .ok (.goto 22, 3) := by decide +kernel
theorem dX13_isLess_40 : decode cX13_isLess 40 = .ok (.lload_n 0, 1) := by decide +kernel
theorem dX13_isLess_41 : decode cX13_isLess 41 = .ok (.lload_n 2, 1) := by decide +kernel
theorem dX13_isLess_42 : decode cX13_isLess 42 = .ok (.lmul, 1) := by decide +kernel
theorem dX13_isLess_43 : decode cX13_isLess 43 = .ok (.lload 4, 2) := by decide +kernel
theorem dX13_isLess_45 : decode cX13_isLess 45 = .ok (.lload 6, 2) := by decide +kernel
theorem dX13_isLess_47 : decode cX13_isLess 47 = .ok (.lmul, 1) := by decide +kernel
theorem dX13_isLess_48 : decode cX13_isLess 48 = .ok (.invokestatic 219, 3) := by decide +kernel
theorem dX13_isLess_51 : decode cX13_isLess 51 = .ok (.ifCond .ge 7, 3) := by decide +kernel
theorem dX13_isLess_54 : decode cX13_isLess 54 = .ok (.iconst 1, 1) := by decide +kernel
theorem dX13_isLess_55 : decode cX13_isLess 55 = .ok (.goto 4, 3) := by decide +kernel
theorem dX13_isLess_58 : decode cX13_isLess 58 = .ok (.iconst 0, 1) := by decide +kernel
theorem dX13_isLess_59 : decode cX13_isLess 59 = .ok (.ireturn, 1) := by decide +kernel
theorem dX13_grownAbove_0 : decode cX13_grownAbove 0 = .ok (.aload_n 0, 1) := by decide +kernel
theorem dX13_grownAbove_1 : decode cX13_grownAbove 1 = .ok (.iload_n 1, 1) := by decide +kernel
theorem dX13_grownAbove_2 : decode cX13_grownAbove 2 = .ok (.invokevirtual 209, 3) := by decide +kernel
theorem dX13_grownAbove_5 : decode cX13_grownAbove 5 = .ok (.aload_n 0, 1) := by decide +kernel
theorem dX13_grownAbove_6 : decode cX13_grownAbove 6 = .ok (.iload_n 1, 1) := by decide +kernel
theorem dX13_grownAbove_7 : decode cX13_grownAbove 7 = .ok (.invokevirtual 209, 3) := by decide +kernel
theorem dX13_grownAbove_10 : decode cX13_grownAbove 10 = .ok (.lmul, 1) := by decide +kernel
theorem dX13_grownAbove_11 : decode cX13_grownAbove 11 = .ok (.lreturn, 1) := by decide +kernel
theorem dX13_grownBelow_0 : decode cX13_grownBelow 0 = .ok (.aload_n 0, 1) := by decide +kernel
theorem dX13_grownBelow_1 : decode cX13_grownBelow 1 = .ok (.iload_n 1, 1) := by decide +kernel
theorem dX13_grownBelow_2 : decode cX13_grownBelow 2 = .ok (.invokevirtual 213, 3) := by decide +kernel
theorem dX13_grownBelow_5 : decode cX13_grownBelow 5 = .ok (.aload_n 0, 1) := by decide +kernel
theorem dX13_grownBelow_6 : decode cX13_grownBelow 6 = .ok (.iload_n 1, 1) := by decide +kernel
theorem dX13_grownBelow_7 : decode cX13_grownBelow 7 = .ok (.iconst 2, 1) := by decide +kernel
theorem dX13_grownBelow_8 : decode cX13_grownBelow 8 = .ok (.invokevirtual 198, 3) := by decide +kernel
theorem dX13_grownBelow_11 : decode cX13_grownBelow 11 = .ok (.aload_n 0, 1) := by decide +kernel
theorem dX13_grownBelow_12 : decode cX13_grownBelow 12 = .ok (.iload_n 1, 1) := by decide +kernel
theorem dX13_grownBelow_13 : decode cX13_grownBelow 13 = .ok (.iconst 1, 1) := by decide +kernel
theorem dX13_grownBelow_14 : decode cX13_grownBelow 14 = .ok (.iadd, 1) := by decide +kernel
theorem dX13_grownBelow_15 : decode cX13_grownBelow 15 = .ok (.iconst 2, 1) := by decide +kernel
theorem dX13_grownBelow_16 : decode cX13_grownBelow 16 = .ok (.invokevirtual 198, 3) := by decide +kernel
theorem dX13_grownBelow_19 : decode cX13_grownBelow 19 = .ok (.ladd, 1) := by decide +kernel
theorem dX13_grownBelow_20 : decode cX13_grownBelow 20 = .ok (.lmul, 1) := by decide +kernel
theorem dX13_grownBelow_21 : decode cX13_grownBelow 21 = .ok (.lreturn, 1) := by decide +kernel
theorem dX13_leastGrown_0 : decode cX13_leastGrown 0 = .ok (.iconst 0, 1) := by decide +kernel
theorem dX13_leastGrown_1 : decode cX13_leastGrown 1 = .ok (.istore_n 1, 1) := by decide +kernel
theorem dX13_leastGrown_2 : decode cX13_leastGrown 2 = .ok (.iconst 1, 1) := by decide +kernel
theorem dX13_leastGrown_3 : decode cX13_leastGrown 3 = .ok (.istore_n 2, 1) := by decide +kernel
theorem dX13_leastGrown_4 : decode cX13_leastGrown 4 = .ok (.iload_n 2, 1) := by decide +kernel
theorem dX13_leastGrown_5 : decode cX13_leastGrown 5 = .ok (.iconst 1, 1) := by decide +kernel
theorem dX13_leastGrown_6 : decode cX13_leastGrown 6 = .ok (.iadd, 1) := by decide +kernel
theorem dX13_leastGrown_7 : decode cX13_leastGrown 7 = .ok (.aload_n 0, 1) := by decide +kernel
theorem dX13_leastGrown_8 : decode cX13_leastGrown 8 = .ok (.getfield 195, 3) := by decide +kernel
theorem dX13_leastGrown_11 : decode cX13_leastGrown 11 = .ok (.if_icmp .ge 41, 3) := by decide +kernel
theorem dX13_leastGrown_14 : decode cX13_leastGrown 14 = .ok (.aload_n 0, 1) := by decide +kernel
theorem dX13_leastGrown_15 : decode cX13_leastGrown 15 = .ok (.iload_n 2, 1) := by decide +kernel
theorem dX13_leastGrown_16 : decode cX13_leastGrown 16 = .ok (.invokevirtual 223, 3) := by decide +kernel
theorem dX13_leastGrown_19 : decode cX13_leastGrown 19 = .ok (.aload_n 0, 1) := by decide +kernel
theorem dX13_leastGrown_20 : decode cX13_leastGrown 20 = .ok (.iload_n 1, 1) := by decide +kernel
theorem dX13_leastGrown_21 : decode cX13_leastGrown 21 = .ok (.invokevirtual 226, 3) := by decide +kernel
theorem dX13_leastGrown_24 : decode cX13_leastGrown 24 = .ok (.aload_n 0, 1) := by decide +kernel
theorem dX13_leastGrown_25 : decode cX13_leastGrown 25 = .ok (.iload_n 1, 1) := by decide +kernel
theorem dX13_leastGrown_26 : decode cX13_leastGrown 26 = .ok (.invokevirtual 223, 3) := by decide +kernel
theorem dX13_leastGrown_29 : decode cX13_leastGrown 29 = .ok (.aload_n 0, 1) := by decide +kernel
theorem dX13_leastGrown_30 : decode cX13_leastGrown 30 = .ok (.iload_n 2, 1) := by decide +kernel
theorem dX13_leastGrown_31 : decode cX13_leastGrown 31 = .ok (.invokevirtual 226, 3) := by decide +kernel
theorem dX13_leastGrown_34 : decode cX13_leastGrown 34 = .ok (.invokestatic 229, 3) := by decide +kernel
theorem dX13_leastGrown_37 : decode cX13_leastGrown 37 = .ok (.ifCond .eq 7, 3) := by decide +kernel
theorem dX13_leastGrown_40 : decode cX13_leastGrown 40 = .ok (.iload_n 2, 1) := by decide +kernel
theorem dX13_leastGrown_41 : decode cX13_leastGrown 41 = .ok (.goto 4, 3) := by decide +kernel
theorem dX13_leastGrown_44 : decode cX13_leastGrown 44 = .ok (.iload_n 1, 1) := by decide +kernel
theorem dX13_leastGrown_45 : decode cX13_leastGrown 45 = .ok (.istore_n 1, 1) := by decide +kernel
theorem dX13_leastGrown_46 : decode cX13_leastGrown 46 = .ok (.iinc 2 1, 3) := by decide +kernel
theorem dX13_leastGrown_49 : decode cX13_leastGrown 49 = .ok (.goto (-45), 3) := by decide +kernel
theorem dX13_leastGrown_52 : decode cX13_leastGrown 52 = .ok (.iload_n 1, 1) := by decide +kernel
theorem dX13_leastGrown_53 : decode cX13_leastGrown 53 = .ok (.ireturn, 1) := by decide +kernel
theorem dX13_laysBands_0 : decode cX13_laysBands 0 = .ok (.aload_n 0, 1) := by decide +kernel
theorem dX13_laysBands_1 : decode cX13_laysBands 1 = .ok (.invokevirtual 233, 3) := by decide +kernel
theorem dX13_laysBands_4 : decode cX13_laysBands 4 = .ok (.aload_n 0, 1) := by decide +kernel
theorem dX13_laysBands_5 : decode cX13_laysBands 5 = .ok (.invokevirtual 236, 3) := by decide +kernel
theorem dX13_laysBands_8 : decode cX13_laysBands 8 = .ok (.aload_n 0, 1) := by decide +kernel
theorem dX13_laysBands_9 : decode cX13_laysBands 9 = .ok (.getfield 195, 3) := by decide +kernel
theorem dX13_laysBands_12 : decode cX13_laysBands 12 = .ok (.iconst 1, 1) := by decide +kernel
theorem dX13_laysBands_13 : decode cX13_laysBands 13 = .ok (.if_icmp .le 40, 3) := by decide +kernel
theorem dX13_laysBands_16 : decode cX13_laysBands 16 = .ok (.aload_n 0, 1) := by decide +kernel
theorem dX13_laysBands_17 : decode cX13_laysBands 17 = .ok (.aload_n 0, 1) := by decide +kernel
