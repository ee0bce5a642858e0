theorem dX13_laysBands_18 : decode cX13_laysBands 18 = .ok (.invokevirtual 239, 3) := by decide +kernel
theorem dX13_laysBands_21 : decode cX13_laysBands 21 = .ok (.iconst 2, 1) := by decide +kernel
theorem dX13_laysBands_22 : decode cX13_laysBands 22 = .ok (.invokevirtual 198, 3) := by decide +kernel
theorem dX13_laysBands_25 : decode cX13_laysBands 25 = .ok (.aload_n 0, 1) := by decide +kernel
theorem dX13_laysBands_26 : decode cX13_laysBands 26 = .ok (.getfield 15, 3) := by decide +kernel
theorem dX13_laysBands_29 : decode cX13_laysBands 29 = .ok (.sipush 3201, 3) := by decide +kernel
theorem dX13_laysBands_32 : decode cX13_laysBands 32 = .ok (.iaload, 1) := by decide +kernel
theorem dX13_laysBands_33 : decode cX13_laysBands 33 = .ok (.i2l, 1) := by decide +kernel
theorem dX13_laysBands_34 : decode cX13_laysBands 34 = .ok (.lcmp, 1) := by decide +kernel
theorem dX13_laysBands_35 : decode cX13_laysBands 35 = .ok (.ifCond .ge 18, 3) := by decide +kernel
theorem dX13_laysBands_38 : decode cX13_laysBands 38 = .ok (.aload_n 0, 1) := by decide +kernel
theorem dX13_laysBands_39 : decode cX13_laysBands 39 = .ok (.aload_n 0, 1) := by decide +kernel
theorem dX13_laysBands_40 : decode cX13_laysBands 40 = .ok (.aload_n 0, 1) := by decide +kernel
theorem dX13_laysBands_41 : decode cX13_laysBands 41 = .ok (.invokevirtual 239, 3) := by decide +kernel
theorem dX13_laysBands_44 : decode cX13_laysBands 44 = .ok (.invokevirtual 242, 3) := by decide +kernel
theorem dX13_laysBands_47 : decode cX13_laysBands 47 = .ok (.invokevirtual 206, 3) := by decide +kernel
theorem dX13_laysBands_50 : decode cX13_laysBands 50 = .ok (.goto (-42), 3) := by decide +kernel
theorem dX13_laysBands_53 : decode cX13_laysBands 53 = .ok (.aload_n 0, 1) := by decide +kernel
theorem dX13_laysBands_54 : decode cX13_laysBands 54 = .ok (.getfield 195, 3) := by decide +kernel
theorem dX13_laysBands_57 : decode cX13_laysBands 57 = .ok (.aload_n 0, 1) := by decide +kernel
theorem dX13_laysBands_58 : decode cX13_laysBands 58 = .ok (.getfield 15, 3) := by decide +kernel
theorem dX13_laysBands_61 : decode cX13_laysBands 61 = .ok (.sipush 3202, 3) := by decide +kernel
theorem dX13_laysBands_64 : decode cX13_laysBands 64 = .ok (.iaload, 1) := by decide +kernel
theorem dX13_laysBands_65 : decode cX13_laysBands 65 = .ok (.if_icmp .le 14, 3) := by decide +kernel
theorem dX13_laysBands_68 : decode cX13_laysBands 68 = .ok (.aload_n 0, 1) := by decide +kernel
theorem dX13_laysBands_69 : decode cX13_laysBands 69 = .ok (.aload_n 0, 1) := by decide +kernel
theorem dX13_laysBands_70 : decode cX13_laysBands 70 = .ok (.invokevirtual 246, 3) := by decide +kernel
theorem dX13_laysBands_73 : decode cX13_laysBands 73 = .ok (.invokevirtual 206, 3) := by decide +kernel
theorem dX13_laysBands_76 : decode cX13_laysBands 76 = .ok (.goto (-23), 3) := by decide +kernel
theorem dX13_laysBands_79 : decode cX13_laysBands 79 = .ok (.return_, 1) := by decide +kernel
theorem dX13_bandAt_0 : decode cX13_bandAt 0 = .ok (.aload_n 0, 1) := by decide +kernel
theorem dX13_bandAt_1 : decode cX13_bandAt 1 = .ok (.getfield 195, 3) := by decide +kernel
theorem dX13_bandAt_4 : decode cX13_bandAt 4 = .ok (.ifCond .ne 7, 3) := by decide +kernel
theorem dX13_bandAt_7 : decode cX13_bandAt 7 = .ok (.iconst (-1), 1) := by decide +kernel
theorem dX13_bandAt_8 : decode cX13_bandAt 8 = .ok (.goto 4, 3) := by decide +kernel
theorem dX13_bandAt_11 : decode cX13_bandAt 11 = .ok (.iconst 0, 1) := by decide +kernel
theorem dX13_bandAt_12 : decode cX13_bandAt 12 = .ok (.istore_n 2, 1) := by decide +kernel
theorem dX13_bandAt_13 : decode cX13_bandAt 13 = .ok (.iconst 1, 1) := by decide +kernel
theorem dX13_bandAt_14 : decode cX13_bandAt 14 = .ok (.istore_n 3, 1) := by decide +kernel
theorem dX13_bandAt_15 : decode cX13_bandAt 15 = .ok (.iload_n 3, 1) := by decide +kernel
theorem dX13_bandAt_16 : decode cX13_bandAt 16 = .ok (.aload_n 0, 1) := by decide +kernel
theorem dX13_bandAt_17 : decode cX13_bandAt 17 = .ok (.getfield 195, 3) := by decide +kernel
theorem dX13_bandAt_20 : decode cX13_bandAt 20 = .ok (.if_icmp .ge 30, 3) := by decide +kernel
theorem dX13_bandAt_23 : decode cX13_bandAt 23 = .ok (.aload_n 0, 1) := by decide +kernel
theorem dX13_bandAt_24 : decode cX13_bandAt 24 = .ok (.getfield 48, 3) := by decide +kernel
theorem dX13_bandAt_27 : decode cX13_bandAt 27 = .ok (.aload_n 0, 1) := by decide +kernel
theorem dX13_bandAt_28 : decode cX13_bandAt 28 = .ok (.getfield 57, 3) := by decide +kernel
theorem dX13_bandAt_31 : decode cX13_bandAt 31 = .ok (.iload_n 3, 1) := by decide +kernel
theorem dX13_bandAt_32 : decode cX13_bandAt 32 = .ok (.iaload, 1) := by decide +kernel
theorem dX13_bandAt_33 : decode cX13_bandAt 33 = .ok (.iaload, 1) := by decide +kernel
theorem dX13_bandAt_34 : decode cX13_bandAt 34 = .ok (.iload_n 1, 1) := by decide +kernel
theorem dX13_bandAt_35 : decode cX13_bandAt 35 = .ok (.if_icmp .gt 7, 3) := by decide +kernel
theorem dX13_bandAt_38 : decode cX13_bandAt 38 = .ok (.iload_n 3, 1) := by decide +kernel
theorem dX13_bandAt_39 : decode cX13_bandAt 39 = .ok (.goto 4, 3) := by decide +kernel
theorem dX13_bandAt_42 : decode cX13_bandAt 42 = .ok (.iload_n 2, 1) := by decide +kernel
theorem dX13_bandAt_43 : decode cX13_bandAt 43 = .ok (.istore_n 2, 1) := by decide +kernel
theorem dX13_bandAt_44 : decode cX13_bandAt 44 = .ok (.iinc 3 1, 3) := by decide +kernel
theorem dX13_bandAt_47 : decode cX13_bandAt 47 = .ok (.goto (-32), 3) := by decide +kernel
theorem dX13_bandAt_50 : decode cX13_bandAt 50 = .ok (.iload_n 2, 1) := by decide +kernel
theorem dX13_bandAt_51 : decode cX13_bandAt 51 = .ok (.ireturn, 1) := by decide +kernel
theorem dX13_count_0 : decode cX13_count 0 = .ok (.aload_n 0, 1) := by decide +kernel
theorem dX13_count_1 : decode cX13_count 1 = .ok (.invokevirtual 249, 3) := by decide +kernel
theorem dX13_count_4 : decode cX13_count 4 = .ok (.iconst 0, 1) := by decide +kernel
theorem dX13_count_5 : decode cX13_count 5 = .ok (.istore_n 2, 1) := by decide +kernel
theorem dX13_count_6 : decode cX13_count 6 = .ok (.iconst 0, 1) := by decide +kernel
theorem dX13_count_7 : decode cX13_count 7 = .ok (.istore_n 3, 1) := by decide +kernel
theorem dX13_count_8 : decode cX13_count 8 = .ok (.iload_n 3, 1) := by decide +kernel
theorem dX13_count_9 : decode cX13_count 9 = .ok (.sipush 1000, 3) := by decide +kernel
theorem dX13_count_12 : decode cX13_count 12 = .ok (.if_icmp .ge 22, 3) := by decide +kernel
theorem dX13_count_15 : decode cX13_count 15 = .ok (.iload_n 2, 1) := by decide +kernel
theorem dX13_count_16 : decode cX13_count 16 = .ok (.aload_n 0, 1) := by decide +kernel
theorem dX13_count_17 : decode cX13_count 17 = .ok (.getfield 15, 3) := by decide +kernel
theorem dX13_count_20 : decode cX13_count 20 = .ok (.sipush 2000, 3) := by decide +kernel
theorem dX13_count_23 : decode cX13_count 23 = .ok (.iload_n 3, 1) := by decide +kernel
theorem dX13_count_24 : decode cX13_count 24 = .ok (.iadd, 1) := by decide +kernel
theorem dX13_count_25 : decode cX13_count 25 = .ok (.iaload, 1) := by decide +kernel
theorem dX13_count_26 : decode cX13_count 26 = .ok (.iadd, 1) := by decide +kernel
theorem dX13_count_27 : decode cX13_count 27 = .ok (.istore_n 2, 1) := by decide +kernel
theorem dX13_count_28 : decode cX13_count 28 = .ok (.iinc 3 1, 3) := by decide +kernel
theorem dX13_count_31 : decode cX13_count 31 = .ok (.goto (-23), 3) := by decide +kernel
theorem dX13_count_34 : decode cX13_count 34 = .ok (.aload_n 0, 1) := by decide +kernel
theorem dX13_count_35 : decode cX13_count 35 = .ok (.getfield 195, 3) := by decide +kernel
theorem dX13_count_38 : decode cX13_count 38 = .ok (.istore_n 3, 1) := by decide +kernel
theorem dX13_count_39 : decode cX13_count 39 = .ok (.aload_n 0, 1) := by decide +kernel
theorem dX13_count_40 : decode cX13_count 40 = .ok (.invokevirtual 236, 3) := by decide +kernel
theorem dX13_count_43 : decode cX13_count 43 = .ok (.aload_n 0, 1) := by decide +kernel
theorem dX13_count_44 : decode cX13_count 44 = .ok (.getfield 195, 3) := by decide +kernel
theorem dX13_count_47 : decode cX13_count 47 = .ok (.istore 4, 2) := by decide +kernel
theorem dX13_count_49 : decode cX13_count 49 = .ok (.iload_n 1, 1) := by decide +kernel
theorem dX13_count_50 : decode cX13_count 50 = .ok (.tableswitch 215 0 17 #[86, 91, 103, 115, 117, 126, 135, 135, 135, 149, 158, 167, 172, 177, 180, 182, 187, 192], 86) := by decide +kernel
theorem dX13_count_136 : decode cX13_count 136 = .ok (.aload_n 0, 1) := by decide +kernel
theorem dX13_count_137 : decode cX13_count 137 = .ok (.getfield 188, 3) := by decide +kernel
theorem dX13_count_140 : decode cX13_count 140 = .ok (.ireturn, 1) := by decide +kernel
theorem dX13_count_141 : decode cX13_count 141 = .ok (.aload_n 0, 1) := by decide +kernel
theorem dX13_count_142 : decode cX13_count 142 = .ok (.iconst 0, 1) := by decide +kernel
theorem dX13_count_143 : decode cX13_count 143 = .ok (.aload_n 0, 1) := by decide +kernel
theorem dX13_count_144 : decode cX13_count 144 = .ok (.getfield 188, 3) := by decide +kernel
theorem dX13_count_147 : decode cX13_count 147 = .ok (.iconst 0, 1) := by decide +kernel
theorem dX13_count_148 : decode cX13_count 148 = .ok (.invokevirtual 191, 3) := by decide +kernel
theorem dX13_count_151 : decode cX13_count 151 = .ok (.l2i, 1) := by decide +kernel
theorem dX13_count_152 : decode cX13_count 152 = .ok (.ireturn, 1) := by decide +kernel
theorem dX13_count_153 : decode cX13_count 153 = .ok (.aload_n 0, 1) := by decide +kernel
theorem dX13_count_154 : decode cX13_count 154 = .ok (.iconst 0, 1) := by decide +kernel
theorem dX13_count_155 : decode cX13_count 155 = .ok (.aload_n 0, 1) := by decide +kernel
theorem dX13_count_156 : decode cX13_count 156 = .ok (.getfield 188, 3) := by decide +kernel
theorem dX13_count_159 : decode cX13_count 159 = .ok (.iconst 1, 1) := by decide +kernel
theorem dX13_count_160 : decode cX13_count 160 = .ok (.invokevirtual 191, 3) := by decide +kernel
theorem dX13_count_163 : decode cX13_count 163 = .ok (.l2i, 1) := by decide +kernel
theorem dX13_count_164 : decode cX13_count 164 = .ok (.ireturn, 1) := by decide +kernel
theorem dX13_count_165 : decode cX13_count 165 = .ok (.iload_n 3, 1) := by decide +kernel
theorem dX13_count_166 : decode cX13_count 166 = .ok (.ireturn, 1) := by decide +kernel
theorem dX13_count_167 : decode cX13_count 167 = .ok (.aload_n 0, 1) := by decide +kernel
theorem dX13_count_168 : decode cX13_count 168 = .ok (.getfield 15, 3) := by decide +kernel
theorem dX13_count_171 : decode cX13_count 171 = .ok (.sipush 3201, 3) := by decide +kernel
theorem dX13_count_174 : decode cX13_count 174 = .ok (.iaload, 1) := by decide +kernel
theorem dX13_count_175 : decode cX13_count 175 = .ok (.ireturn, 1) := by decide +kernel
theorem dX13_count_176 : decode cX13_count 176 = .ok (.aload_n 0, 1) := by decide +kernel
theorem dX13_count_177 : decode cX13_count 177 = .ok (.getfield 15, 3) := by decide +kernel
theorem dX13_count_180 : decode cX13_count 180 = .ok (.sipush 3202, 3) := by decide +kernel
theorem dX13_count_183 : decode cX13_count 183 = .ok (.iaload, 1) := by decide +kernel
theorem dX13_count_184 : decode cX13_count 184 = .ok (.ireturn, 1) := by decide +kernel
theorem dX13_count_185 : decode cX13_count 185 = .ok (.aload_n 0, 1) := by decide +kernel
theorem dX13_count_186 : decode cX13_count 186 = .ok (.getfield 15, 3) := by decide +kernel
theorem dX13_count_189 : decode cX13_count 189 = .ok (.sipush 3203, 3) := by decide +kernel
theorem dX13_count_192 : decode cX13_count 192 = .ok (.iload_n 1, 1) := by decide +kernel
theorem dX13_count_193 : decode cX13_count 193 = .ok (.iadd, 1) := by decide +kernel
theorem dX13_count_194 : decode cX13_count 194 = .ok (.bipush 6, 2) := by decide +kernel
theorem dX13_count_196 : decode cX13_count 196 = .ok (.isub, 1) := by decide +kernel
theorem dX13_count_197 : decode cX13_count 197 = .ok (.iaload, 1) := by decide +kernel
theorem dX13_count_198 : decode cX13_count 198 = .ok (.ireturn, 1) := by decide +kernel
theorem dX13_count_199 : decode cX13_count 199 = .ok (.aload_n 0, 1) := by decide +kernel
theorem dX13_count_200 : decode cX13_count 200 = .ok (.getfield 15, 3) := by decide +kernel
theorem dX13_count_203 : decode cX13_count 203 = .ok (.sipush 3200, 3) := by decide +kernel
theorem dX13_count_206 : decode cX13_count 206 = .ok (.iaload, 1) := by decide +kernel
theorem dX13_count_207 : decode cX13_count 207 = .ok (.ireturn, 1) := by decide +kernel
theorem dX13_count_208 : decode cX13_count 208 = .ok (.aload_n 0, 1) := by decide +kernel
theorem dX13_count_209 : decode cX13_count 209 = .ok (.getfield 25, 3) := by decide +kernel
theorem dX13_count_212 : decode cX13_count 212 = .ok (.iconst 0, 1) := by decide +kernel
theorem dX13_count_213 : decode cX13_count 213 = .ok (.invokestatic 184, 3) := by decide +kernel
theorem dX13_count_216 : decode cX13_count 216 = .ok (.ireturn, 1) := by decide +kernel
theorem dX13_count_217 : decode cX13_count 217 = .ok (.aload_n 0, 1) := by decide +kernel
theorem dX13_count_218 : decode cX13_count 218 = .ok (.getfield 80, 3) := by decide +kernel
theorem dX13_count_221 : decode cX13_count 221 = .ok (.ireturn, 1) := by decide +kernel
theorem dX13_count_222 : decode cX13_count 222 = .ok (.aload_n 0, 1) := by decide +kernel
theorem dX13_count_223 : decode cX13_count 223 = .ok (.getfield 83, 3) := by decide +kernel
theorem dX13_count_226 : decode cX13_count 226 = .ok (.ireturn, 1) := by decide +kernel
theorem dX13_count_227 : decode cX13_count 227 = .ok (.iload 4, 2) := by decide +kernel
theorem dX13_count_229 : decode cX13_count 229 = .ok (.ireturn, 1) := by decide +kernel
theorem dX13_count_230 : decode cX13_count 230 = .ok (.iload_n 2, 1) := by decide +kernel
theorem dX13_count_231 : decode cX13_count 231 = .ok (.ireturn, 1) := by decide +kernel
theorem dX13_count_232 : decode cX13_count 232 = .ok (.aload_n 0, 1) := by decide +kernel
theorem dX13_count_233 : decode cX13_count 233 = .ok (.getfield 77, 3) := by decide +kernel
theorem dX13_count_236 : decode cX13_count 236 = .ok (.ireturn, 1) := by decide +kernel
theorem dX13_count_237 : decode cX13_count 237 = .ok (.aload_n 0, 1) := by decide +kernel
theorem dX13_count_238 : decode cX13_count 238 = .ok (.getfield 252, 3) := by decide +kernel
theorem dX13_count_241 : decode cX13_count 241 = .ok (.ireturn, 1) := by decide +kernel
theorem dX13_count_242 : decode cX13_count 242 = .ok (.aload_n 0, 1) := by decide +kernel
theorem dX13_count_243 : decode cX13_count 243 = .ok (.getfield 188, 3) := by decide +kernel
theorem dX13_count_246 : decode cX13_count 246 = .ok (.ifCond .ne 7, 3) := by decide +kernel
theorem dX13_count_249 : decode cX13_count 249 = .ok (.iconst (-1), 1) := by decide +kernel
theorem dX13_count_250 : decode cX13_count 250 = .ok (.goto 14, 3) := by decide +kernel
theorem dX13_count_253 : decode cX13_count 253 = .ok (.aload_n 0, 1) := by decide +kernel
theorem dX13_count_254 : decode cX13_count 254 = .ok (.getfield 48, 3) := by decide +kernel
theorem dX13_count_257 : decode cX13_count 257 = .ok (.aload_n 0, 1) := by decide +kernel
theorem dX13_count_258 : decode cX13_count 258 = .ok (.getfield 188, 3) := by decide +kernel
theorem dX13_count_261 : decode cX13_count 261 = .ok (.iconst 1, 1) := by decide +kernel
theorem dX13_count_262 : decode cX13_count 262 = .ok (.isub, 1) := by decide +kernel
theorem dX13_count_263 : decode cX13_count 263 = .ok (.iaload, 1) := by decide +kernel
theorem dX13_count_264 : decode cX13_count 264 = .ok (.ireturn, 1) := by decide +kernel
theorem dX13_count_265 : decode cX13_count 265 = .ok (.iconst (-1), 1) := by decide +kernel
theorem dX13_count_266 : decode cX13_count 266 = .ok (.ireturn, 1) := by decide +kernel
theorem dX13_row_0 : decode cX13_row 0 = .ok (.aload_n 0, 1) := by decide +kernel
theorem dX13_row_1 : decode cX13_row 1 = .ok (.invokevirtual 249, 3) := by decide +kernel
theorem dX13_row_4 : decode cX13_row 4 = .ok (.iload_n 1, 1) := by decide +kernel
theorem dX13_row_5 : decode cX13_row 5 = .ok (.i2l, 1) := by decide +kernel
theorem dX13_row_6 : decode cX13_row 6 = .ok (.lconst 0, 1) := by decide +kernel
theorem dX13_row_7 : decode cX13_row 7 = .ok (.aload_n 0, 1) := by decide +kernel
theorem dX13_row_8 : decode cX13_row 8 = .ok (.getfield 188, 3) := by decide +kernel
theorem dX13_row_11 : decode cX13_row 11 = .ok (.iconst 1, 1) := by decide +kernel
theorem dX13_row_12 : decode cX13_row 12 = .ok (.isub, 1) := by decide +kernel
theorem dX13_row_13 : decode cX13_row 13 = .ok (.i2l, 1) := by decide +kernel
theorem dX13_row_14 : decode cX13_row 14 = .ok (.invokestatic 86, 3) := by decide +kernel
theorem dX13_row_17 : decode cX13_row 17 = .ok (.ifCond .ne 6, 3) := by decide +kernel
theorem dX13_row_20 : decode cX13_row 20 = .ok (.bipush (-2), 2) := by decide +kernel
theorem dX13_row_22 : decode cX13_row 22 = .ok (.ireturn, 1) := by decide +kernel
theorem dX13_row_23 : decode cX13_row 23 = .ok (.iload_n 2, 1) := by decide +kernel
theorem dX13_row_24 : decode cX13_row 24 = .ok (.tableswitch 64 0 3 #[32, 39, 46, 53], 32) := by decide +kernel
theorem dX13_row_56 : decode cX13_row 56 = .ok (.aload_n 0, 1) := by decide +kernel
theorem dX13_row_57 : decode cX13_row 57 = .ok (.getfield 48, 3) := by decide +kernel
theorem dX13_row_60 : decode cX13_row 60 = .ok (.iload_n 1, 1) := by decide +kernel
theorem dX13_row_61 : decode cX13_row 61 = .ok (.iaload, 1) := by decide +kernel
theorem dX13_row_62 : decode cX13_row 62 = .ok (.ireturn, 1) := by decide +kernel
theorem dX13_row_63 : decode cX13_row 63 = .ok (.aload_n 0, 1) := by decide +kernel
theorem dX13_row_64 : decode cX13_row 64 = .ok (.getfield 51, 3) := by decide +kernel
theorem dX13_row_67 : decode cX13_row 67 = .ok (.iload_n 1, 1) := by decide +kernel
theorem dX13_row_68 : decode cX13_row 68 = .ok (.iaload, 1) := by decide +kernel
theorem dX13_row_69 : decode cX13_row 69 = .ok (.ireturn, 1) := by decide +kernel
theorem dX13_row_70 : decode cX13_row 70 = .ok (.aload_n 0, 1) := by decide +kernel
theorem dX13_row_71 : decode cX13_row 71 = .ok (.getfield 54, 3) := by decide +kernel
theorem dX13_row_74 : decode cX13_row 74 = .ok (.iload_n 1, 1) := by decide +kernel
theorem dX13_row_75 : decode cX13_row 75 = .ok (.iaload, 1) := by decide +kernel
theorem dX13_row_76 : decode cX13_row 76 = .ok (.ireturn, 1) := by decide +kernel
theorem dX13_row_77 : decode cX13_row 77 = .ok (.aload_n 0, 1) := by decide +kernel
theorem dX13_row_78 : decode cX13_row 78 = .ok (.aload_n 0, 1) := by decide +kernel
theorem dX13_row_79 : decode cX13_row 79 = .ok (.getfield 48, 3) := by decide +kernel
theorem dX13_row_82 : decode cX13_row 82 = .ok (.iload_n 1, 1) := by decide +kernel
theorem dX13_row_83 : decode cX13_row 83 = .ok (.iaload, 1) := by decide +kernel
theorem dX13_row_84 : decode cX13_row 84 = .ok (.invokevirtual 255, 3) := by decide +kernel
theorem dX13_row_87 : decode cX13_row 87 = .ok (.ireturn, 1) := by decide +kernel
theorem dX13_row_88 : decode cX13_row 88 = .ok (.bipush (-2), 2) := by decide +kernel
theorem dX13_row_90 : decode cX13_row 90 = .ok (.ireturn, 1) := by decide +kernel
theorem dX13_inBand_0 : decode cX13_inBand 0 = .ok (.iconst 0, 1) := by decide +kernel
theorem dX13_inBand_1 : decode cX13_inBand 1 = .ok (.istore 4, 2) := by decide +kernel
theorem dX13_inBand_3 : decode cX13_inBand 3 = .ok (.iconst 0, 1) := by decide +kernel
theorem dX13_inBand_4 : decode cX13_inBand 4 = .ok (.istore 5, 2) := by decide +kernel
theorem dX13_inBand_6 : decode cX13_inBand 6 = .ok (.iload 5, 2) := by decide +kernel
theorem dX13_inBand_8 : decode cX13_inBand 8 = .ok (.sipush 1000, 3) := by decide +kernel
theorem dX13_inBand_11 : decode cX13_inBand 11 = .ok (.if_icmp .ge 43, 3) := by decide +kernel
theorem dX13_inBand_14 : decode cX13_inBand 14 = .ok (.iload 4, 2) := by decide +kernel
theorem dX13_inBand_16 : decode cX13_inBand 16 = .ok (.aload_n 1, 1) := by decide +kernel
theorem dX13_inBand_17 : decode cX13_inBand 17 = .ok (.iload_n 2, 1) := by decide +kernel
theorem dX13_inBand_18 : decode cX13_inBand 18 = .ok (.iload 5, 2) := by decide +kernel
theorem dX13_inBand_20 : decode cX13_inBand 20 = .ok (.iadd, 1) := by decide +kernel
theorem dX13_inBand_21 : decode cX13_inBand 21 = .ok (.iaload, 1) := by decide +kernel
theorem dX13_inBand_22 : decode cX13_inBand 22 = .ok (.ifCond .le 22, 3) := by decide +kernel
theorem dX13_inBand_25 : decode cX13_inBand 25 = .ok (.aload_n 0, 1) := by decide +kernel
theorem dX13_inBand_26 : decode cX13_inBand 26 = .ok (.iload 5, 2) := by decide +kernel
theorem dX13_inBand_28 : decode cX13_inBand 28 = .ok (.invokevirtual 255, 3) := by decide +kernel
theorem dX13_inBand_31 : decode cX13_inBand 31 = .ok (.iload_n 3, 1) := by decide +kernel
theorem dX13_inBand_32 : decode cX13_inBand 32 = .ok (.if_icmp .ne 12, 3) := by decide +kernel
theorem dX13_inBand_35 : decode cX13_inBand 35 = .ok (.aload_n 1, 1) := by decide +kernel
theorem dX13_inBand_36 : decode cX13_inBand 36 = .ok (.iload_n 2, 1) := by decide +kernel
theorem dX13_inBand_37 : decode cX13_inBand 37 = .ok (.iload 5, 2) := by decide +kernel
theorem dX13_inBand_39 : decode cX13_inBand 39 = .ok (.iadd, 1) := by decide +kernel
theorem dX13_inBand_40 : decode cX13_inBand 40 = .ok (.iaload, 1) := by decide +kernel
theorem dX13_inBand_41 : decode cX13_inBand 41 = .ok (.goto 4, 3) := by decide +kernel
theorem dX13_inBand_44 : decode cX13_inBand 44 = .ok (.iconst 0, 1) := by decide +kernel
theorem dX13_inBand_45 : decode cX13_inBand 45 = .ok (.iadd, 1) := by decide +kernel
theorem dX13_inBand_46 : decode cX13_inBand 46 = .ok (.istore 4, 2) := by decide +kernel
theorem dX13_inBand_48 : decode cX13_inBand 48 = .ok (.iinc 5 1, 3) := by decide +kernel
theorem dX13_inBand_51 : decode cX13_inBand 51 = .ok (.goto (-45), 3) := by decide +kernel
theorem dX13_inBand_54 : decode cX13_inBand 54 = .ok (.iload 4, 2) := by decide +kernel
theorem dX13_inBand_56 : decode cX13_inBand 56 = .ok (.ireturn, 1) := by decide +kernel
theorem dX13_band_0 : decode cX13_band 0 = .ok (.aload_n 0, 1) := by decide +kernel
theorem dX13_band_1 : decode cX13_band 1 = .ok (.invokevirtual 249, 3) := by decide +kernel
theorem dX13_band_4 : decode cX13_band 4 = .ok (.iload_n 1, 1) := by decide +kernel
theorem dX13_band_5 : decode cX13_band 5 = .ok (.i2l, 1) := by decide +kernel
theorem dX13_band_6 : decode cX13_band 6 = .ok (.lconst 0, 1) := by decide +kernel
theorem dX13_band_7 : decode cX13_band 7 = .ok (.aload_n 0, 1) := by decide +kernel
theorem dX13_band_8 : decode cX13_band 8 = .ok (.getfield 195, 3) := by decide +kernel
theorem dX13_band_11 : decode cX13_band 11 = .ok (.iconst 1, 1) := by decide +kernel
theorem dX13_band_12 : decode cX13_band 12 = .ok (.isub, 1) := by decide +kernel
theorem dX13_band_13 : decode cX13_band 13 = .ok (.i2l, 1) := by decide +kernel
theorem dX13_band_14 : decode cX13_band 14 = .ok (.invokestatic 86, 3) := by decide +kernel
theorem dX13_band_17 : decode cX13_band 17 = .ok (.ifCond .ne 6, 3) := by decide +kernel
theorem dX13_band_20 : decode cX13_band 20 = .ok (.bipush (-2), 2) := by decide +kernel
theorem dX13_band_22 : decode cX13_band 22 = .ok (.ireturn, 1) := by decide +kernel
theorem dX13_band_23 : decode cX13_band 23 = .ok (.iload_n 2, 1) := by decide +kernel
theorem dX13_band_24 : decode cX13_band 24 = .ok (.tableswitch 139 0 7 #[48, 60, 76, 84, 92, 92, 112, 128], 48) := by decide +kernel
theorem dX13_band_72 : decode cX13_band 72 = .ok (.aload_n 0, 1) := by decide +kernel
theorem dX13_band_73 : decode cX13_band 73 = .ok (.getfield 48, 3) := by decide +kernel
theorem dX13_band_76 : decode cX13_band 76 = .ok (.aload_n 0, 1) := by decide +kernel
theorem dX13_band_77 : decode cX13_band 77 = .ok (.getfield 57, 3) := by decide +kernel
theorem dX13_band_80 : decode cX13_band 80 = .ok (.iload_n 1, 1) := by decide +kernel
theorem dX13_band_81 : decode cX13_band 81 = .ok (.iaload, 1) := by decide +kernel
theorem dX13_band_82 : decode cX13_band 82 = .ok (.iaload, 1) := by decide +kernel
theorem dX13_band_83 : decode cX13_band 83 = .ok (.ireturn, 1) := by decide +kernel
theorem dX13_band_84 : decode cX13_band 84 = .ok (.aload_n 0, 1) := by decide +kernel
theorem dX13_band_85 : decode cX13_band 85 = .ok (.getfield 48, 3) := by decide +kernel
theorem dX13_band_88 : decode cX13_band 88 = .ok (.aload_n 0, 1) := by decide +kernel
theorem dX13_band_89 : decode cX13_band 89 = .ok (.getfield 57, 3) := by decide +kernel
theorem dX13_band_92 : decode cX13_band 92 = .ok (.iload_n 1, 1) := by decide +kernel
theorem dX13_band_93 : decode cX13_band 93 = .ok (.iconst 1, 1) := by decide +kernel
theorem dX13_band_94 : decode cX13_band 94 = .ok (.iadd, 1) := by decide +kernel
theorem dX13_band_95 : decode cX13_band 95 = .ok (.iaload, 1) := by decide +kernel
theorem dX13_band_96 : decode cX13_band 96 = .ok (.iconst 1, 1) := by decide +kernel
theorem dX13_band_97 : decode cX13_band 97 = .ok (.isub, 1) := by decide +kernel
theorem dX13_band_98 : decode cX13_band 98 = .ok (.iaload, 1) := by decide +kernel
theorem dX13_band_99 : decode cX13_band 99 = .ok (.ireturn, 1) := by decide +kernel
theorem dX13_band_100 : decode cX13_band 100 = .ok (.aload_n 0, 1) := by decide +kernel
theorem dX13_band_101 : decode cX13_band 101 = .ok (.iload_n 1, 1) := by decide +kernel
theorem dX13_band_102 : decode cX13_band 102 = .ok (.iconst 0, 1) := by decide +kernel
theorem dX13_band_103 : decode cX13_band 103 = .ok (.invokevirtual 198, 3) := by decide +kernel
theorem dX13_band_106 : decode cX13_band 106 = .ok (.l2i, 1) := by decide +kernel
theorem dX13_band_107 : decode cX13_band 107 = .ok (.ireturn, 1) := by decide +kernel
theorem dX13_band_108 : decode cX13_band 108 = .ok (.aload_n 0, 1) := by decide +kernel
theorem dX13_band_109 : decode cX13_band 109 = .ok (.iload_n 1, 1) := by decide +kernel
theorem dX13_band_110 : decode cX13_band 110 = .ok (.iconst 1, 1) := by decide +kernel
theorem dX13_band_111 : decode cX13_band 111 = .ok (.invokevirtual 198, 3) := by decide +kernel
theorem dX13_band_114 : decode cX13_band 114 = .ok (.l2i, 1) := by decide +kernel
theorem dX13_band_115 : decode cX13_band 115 = .ok (.ireturn, 1) := by decide +kernel
theorem dX13_band_116 : decode cX13_band 116 = .ok (.aload_n 0, 1) := by decide +kernel
theorem dX13_band_117 : decode cX13_band 117 = .ok (.iload_n 1, 1) := by decide +kernel
theorem dX13_band_118 : decode cX13_band 118 = .ok (.iconst 1, 1) := by decide +kernel
theorem dX13_band_119 : decode cX13_band 119 = .ok (.invokevirtual 198, 3) := by decide +kernel
theorem dX13_band_122 : decode cX13_band 122 = .ok (.aload_n 0, 1) := by decide +kernel
theorem dX13_band_123 : decode cX13_band 123 = .ok (.iload_n 1, 1) := by decide +kernel
theorem dX13_band_124 : decode cX13_band 124 = .ok (.iconst 2, 1) := by decide +kernel
theorem dX13_band_125 : decode cX13_band 125 = .ok (.invokevirtual 198, 3) := by decide +kernel
theorem dX13_band_128 : decode cX13_band 128 = .ok (.iload_n 2, 1) := by decide +kernel
theorem dX13_band_129 : decode cX13_band 129 = .ok (.iconst 4, 1) := by decide +kernel
theorem dX13_band_130 : decode cX13_band 130 = .ok (.isub, 1) := by decide +kernel
theorem dX13_band_131 : decode cX13_band 131 = .ok (.invokestatic 258, 3) := by decide +kernel
theorem dX13_band_134 : decode cX13_band 134 = .ok (.l2i, 1) := by decide +kernel
theorem dX13_band_135 : decode cX13_band 135 = .ok (.ireturn, 1) := by decide +kernel
theorem dX13_band_136 : decode cX13_band 136 = .ok (.aload_n 0, 1) := by decide +kernel
theorem dX13_band_137 : decode cX13_band 137 = .ok (.getfield 57, 3) := by decide +kernel
theorem dX13_band_140 : decode cX13_band 140 = .ok (.iload_n 1, 1) := by decide +kernel
theorem dX13_band_141 : decode cX13_band 141 = .ok (.iconst 1, 1) := by decide +kernel
theorem dX13_band_142 : decode cX13_band 142 = .ok (.iadd, 1) := by decide +kernel
theorem dX13_band_143 : decode cX13_band 143 = .ok (.iaload, 1) := by decide +kernel
theorem dX13_band_144 : decode cX13_band 144 = .ok (.aload_n 0, 1) := by decide +kernel
theorem dX13_band_145 : decode cX13_band 145 = .ok (.getfield 57, 3) := by decide +kernel
theorem dX13_band_148 : decode cX13_band 148 = .ok (.iload_n 1, 1) := by decide +kernel
theorem dX13_band_149 : decode cX13_band 149 = .ok (.iaload, 1) := by decide +kernel
theorem dX13_band_150 : decode cX13_band 150 = .ok (.isub, 1) := by decide +kernel
theorem dX13_band_151 : decode cX13_band 151 = .ok (.ireturn, 1) := by decide +kernel
theorem dX13_band_152 : decode cX13_band 152 = .ok (.aload_n 0, 1) := by decide +kernel
theorem dX13_band_153 : decode cX13_band 153 = .ok (.aload_n 0, 1) := by decide +kernel
theorem dX13_band_154 : decode cX13_band 154 = .ok (.getfield 25, 3) := by decide +kernel
theorem dX13_band_157 : decode cX13_band 157 = .ok (.iconst 0, 1) := by decide +kernel
theorem dX13_band_158 : decode cX13_band 158 = .ok (.iload_n 1, 1) := by decide +kernel
theorem dX13_band_159 : decode cX13_band 159 = .ok (.invokevirtual 262, 3) := by decide +kernel
theorem dX13_band_162 : decode cX13_band 162 = .ok (.ireturn, 1) := by decide +kernel
theorem dX13_band_163 : decode cX13_band 163 = .ok (.bipush (-2), 2) := by decide +kernel
theorem dX13_band_165 : decode cX13_band 165 = .ok (.ireturn, 1) := by decide +kernel
theorem dX13_bandOf_0 : decode cX13_bandOf 0 = .ok (.iload_n 1, 1) := by decide +kernel
theorem dX13_bandOf_1 : decode cX13_bandOf 1 = .ok (.i2l, 1) := by decide +kernel
theorem dX13_bandOf_2 : decode cX13_bandOf 2 = .ok (.lconst 0, 1) := by decide +kernel
theorem dX13_bandOf_3 : decode cX13_bandOf 3 = .ok (.ldc2_w 149, 3) := by decide +kernel
theorem dX13_bandOf_6 : decode cX13_bandOf 6 = .ok (.invokestatic 86, 3) := by decide +kernel
theorem dX13_bandOf_9 : decode cX13_bandOf 9 = .ok (.ifCond .ne 6, 3) := by decide +kernel
theorem dX13_bandOf_12 : decode cX13_bandOf 12 = .ok (.bipush (-2), 2) := by decide +kernel
theorem dX13_bandOf_14 : decode cX13_bandOf 14 = .ok (.ireturn, 1) := by decide +kernel
theorem dX13_bandOf_15 : decode cX13_bandOf 15 = .ok (.aload_n 0, 1) := by decide +kernel
theorem dX13_bandOf_16 : decode cX13_bandOf 16 = .ok (.invokevirtual 249, 3) := by decide +kernel
theorem dX13_bandOf_19 : decode cX13_bandOf 19 = .ok (.aload_n 0, 1) := by decide +kernel
theorem dX13_bandOf_20 : decode cX13_bandOf 20 = .ok (.iload_n 1, 1) := by decide +kernel
theorem dX13_bandOf_21 : decode cX13_bandOf 21 = .ok (.invokevirtual 255, 3) := by decide +kernel
theorem dX13_bandOf_24 : decode cX13_bandOf 24 = .ok (.ireturn, 1) := by decide +kernel
theorem dX13_bits_0 : decode cX13_bits 0 = .ok (.dload_n 0, 1) := by decide +kernel
theorem dX13_bits_1 : decode cX13_bits 1 = .ok (.invokestatic 266, 3) := by decide +kernel
theorem dX13_bits_4 : decode cX13_bits 4 = .ok (.lreturn, 1) := by decide +kernel
theorem dX13_rate_0 : decode cX13_rate 0 = .ok (.aload_n 0, 1) := by decide +kernel
theorem dX13_rate_1 : decode cX13_rate 1 = .ok (.invokevirtual 249, 3) := by decide +kernel
theorem dX13_rate_4 : decode cX13_rate 4 = .ok (.iload_n 1, 1) := by decide +kernel
theorem dX13_rate_5 : decode cX13_rate 5 = .ok (.i2l, 1) := by decide +kernel
theorem dX13_rate_6 : decode cX13_rate 6 = .ok (.lconst 0, 1) := by decide +kernel
theorem dX13_rate_7 : decode cX13_rate 7 = .ok (.aload_n 0, 1) := by decide +kernel
theorem dX13_rate_8 : decode cX13_rate 8 = .ok (.getfield 195, 3) := by decide +kernel
theorem dX13_rate_11 : decode cX13_rate 11 = .ok (.iconst 1, 1) := by decide +kernel
theorem dX13_rate_12 : decode cX13_rate 12 = .ok (.isub, 1) := by decide +kernel
theorem dX13_rate_13 : decode cX13_rate 13 = .ok (.i2l, 1) := by decide +kernel
theorem dX13_rate_14 : decode cX13_rate 14 = .ok (.invokestatic 86, 3) := by decide +kernel
theorem dX13_rate_17 : decode cX13_rate 17 = .ok (.ifCond .eq 15, 3) := by decide +kernel
theorem dX13_rate_20 : decode cX13_rate 20 = .ok (.iload_n 2, 1) := by decide +kernel
theorem dX13_rate_21 : decode cX13_rate 21 = .ok (.i2l, 1) := by decide +kernel
theorem dX13_rate_22 : decode cX13_rate 22 = .ok (.lconst 0, 1) := by decide +kernel
theorem dX13_rate_23 : decode cX13_rate 23 = .ok (.ldc2_w 272, 3) := by decide +kernel
theorem dX13_rate_26 : decode cX13_rate 26 = .ok (.invokestatic 86, 3) := by decide +kernel
theorem dX13_rate_29 : decode cX13_rate 29 = .ok (.ifCond .ne 7, 3) := by decide +kernel
theorem dX13_rate_32 : decode cX13_rate 32 = .ok (.ldc2_w 274, 3) := by decide +kernel
theorem dX13_rate_35 : decode cX13_rate 35 = .ok (.lreturn, 1) := by decide +kernel
theorem dX13_rate_36 : decode cX13_rate 36 = .ok (.aload_n 0, 1) := by decide +kernel
theorem dX13_rate_37 : decode cX13_rate 37 = .ok (.iload_n 1, 1) := by decide +kernel
theorem dX13_rate_38 : decode cX13_rate 38 = .ok (.iconst 1, 1) := by decide +kernel
theorem dX13_rate_39 : decode cX13_rate 39 = .ok (.invokevirtual 198, 3) := by decide +kernel
theorem dX13_rate_42 : decode cX13_rate 42 = .ok (.l2d, 1) := by decide +kernel
theorem dX13_rate_43 : decode cX13_rate 43 = .ok (.aload_n 0, 1) := by decide +kernel
theorem dX13_rate_44 : decode cX13_rate 44 = .ok (.iload_n 1, 1) := by decide +kernel
theorem dX13_rate_45 : decode cX13_rate 45 = .ok (.iconst 2, 1) := by decide +kernel
theorem dX13_rate_46 : decode cX13_rate 46 = .ok (.invokevirtual 198, 3) := by decide +kernel
theorem dX13_rate_49 : decode cX13_rate 49 = .ok (.l2d, 1) := by decide +kernel
theorem dX13_rate_50 : decode cX13_rate 50 = .ok (.ddiv, 1) := by decide +kernel
theorem dX13_rate_51 : decode cX13_rate 51 = .ok (.dstore_n 3, 1) := by decide +kernel
theorem dX13_rate_52 : decode cX13_rate 52 = .ok (.iload_n 2, 1) := by decide +kernel
theorem dX13_rate_53 : decode cX13_rate 53 = .ok (.ifCond .ne 10, 3) := by decide +kernel
theorem dX13_rate_56 : decode cX13_rate 56 = .ok (.dload_n 3, 1) := by decide +kernel
theorem dX13_rate_57 : decode cX13_rate 57 = .ok (.invokestatic 276, 3) := by decide +kernel
theorem dX13_rate_60 : decode cX13_rate 60 = .ok (.goto 41, 3) := by decide +kernel
theorem dX13_rate_63 : decode cX13_rate 63 = .ok (.iload_n 2, 1) := by decide +kernel
theorem dX13_rate_64 : decode cX13_rate 64 = .ok (.iconst 1, 1) := by decide +kernel
theorem dX13_rate_65 : decode cX13_rate 65 = .ok (.if_icmp .ne 12, 3) := by decide +kernel
theorem dX13_rate_68 : decode cX13_rate 68 = .ok (.dload_n 3, 1) := by decide +kernel
theorem dX13_rate_69 : decode cX13_rate 69 = .ok (.d2f, 1) := by decide +kernel
theorem dX13_rate_70 : decode cX13_rate 70 = .ok (.invokestatic 279, 3) := by decide +kernel
theorem dX13_rate_73 : decode cX13_rate 73 = .ok (.i2l, 1) := by decide +kernel
theorem dX13_rate_74 : decode cX13_rate 74 = .ok (.goto 27, 3) := by decide +kernel
theorem dX13_rate_77 : decode cX13_rate 77 = .ok (.iload_n 2, 1) := by decide +kernel
theorem dX13_rate_78 : decode cX13_rate 78 = .ok (.iconst 2, 1) := by decide +kernel
theorem dX13_rate_79 : decode cX13_rate 79 = .ok (.if_icmp .ne 16, 3) := by decide +kernel
theorem dX13_rate_82 : decode cX13_rate 82 = .ok (.ldc2_w 285, 3) := by decide +kernel
theorem dX13_rate_85 : decode cX13_rate 85 = .ok (.dload_n 3, 1) := by decide +kernel
theorem dX13_rate_86 : decode cX13_rate 86 = .ok (.dmul, 1) := by decide +kernel
theorem dX13_rate_87 : decode cX13_rate 87 = .ok (.dconst 1, 1) := by decide +kernel
theorem dX13_rate_88 : decode cX13_rate 88 = .ok (.drem, 1) := by decide +kernel
theorem dX13_rate_89 : decode cX13_rate 89 = .ok (.invokestatic 276, 3) := by decide +kernel
theorem dX13_rate_92 : decode cX13_rate 92 = .ok (.goto 9, 3) := by decide +kernel
theorem dX13_rate_95 : decode cX13_rate 95 = .ok (.ldc2_w 285, 3) := by decide +kernel
theorem dX13_rate_98 : decode cX13_rate 98 = .ok (.dload_n 3, 1) := by decide +kernel
theorem dX13_rate_99 : decode cX13_rate 99 = .ok (.dmul, 1) := by decide +kernel
theorem dX13_rate_100 : decode cX13_rate 100 = .ok (.d2l, 1) := by decide +kernel
theorem dX13_rate_101 : decode cX13_rate 101 = .ok (.lreturn, 1) := by decide +kernel
theorem dX13_error_0 : decode cX13_error 0 = .ok (.aload_n 0, 1) := by decide +kernel
theorem dX13_error_1 : decode cX13_error 1 = .ok (.invokevirtual 249, 3) := by decide +kernel
theorem dX13_error_4 : decode cX13_error 4 = .ok (.dconst 0, 1) := by decide +kernel
theorem dX13_error_5 : decode cX13_error 5 = .ok (.dstore_n 1, 1) := by decide +kernel
theorem dX13_error_6 : decode cX13_error 6 = .ok (.iconst 0, 1) := by decide +kernel
theorem dX13_error_7 : decode cX13_error 7 = .ok (.istore_n 3, 1) := by decide +kernel
theorem dX13_error_8 : decode cX13_error 8 = .ok (.iload_n 3, 1) := by decide +kernel
theorem dX13_error_9 : decode cX13_error 9 = .ok (.aload_n 0, 1) := by decide +kernel
theorem dX13_error_10 : decode cX13_error 10 = .ok (.getfield 195, 3) := by decide +kernel
theorem dX13_error_13 : decode cX13_error 13 = .ok (.if_icmp .ge 34, 3) := by decide +kernel
theorem dX13_error_16 : decode cX13_error 16 = .ok (.dload_n 1, 1) := by decide +kernel
theorem dX13_error_17 : decode cX13_error 17 = .ok (.aload_n 0, 1) := by decide +kernel
theorem dX13_error_18 : decode cX13_error 18 = .ok (.iload_n 3, 1) := by decide +kernel
theorem dX13_error_19 : decode cX13_error 19 = .ok (.iconst 0, 1) := by decide +kernel
theorem dX13_error_20 : decode cX13_error 20 = .ok (.invokevirtual 198, 3) := by decide +kernel
theorem dX13_error_23 : decode cX13_error 23 = .ok (.aload_n 0, 1) := by decide +kernel
theorem dX13_error_24 : decode cX13_error 24 = .ok (.iload_n 3, 1) := by decide +kernel
theorem dX13_error_25 : decode cX13_error 25 = .ok (.iconst 1, 1) := by decide +kernel
theorem dX13_error_26 : decode cX13_error 26 = .ok (.invokevirtual 198, 3) := by decide +kernel
theorem dX13_error_29 : decode cX13_error 29 = .ok (.lmul, 1) := by decide +kernel
theorem dX13_error_30 : decode cX13_error 30 = .ok (.l2d, 1) := by decide +kernel
theorem dX13_error_31 : decode cX13_error 31 = .ok (.aload_n 0, 1) := by decide +kernel
theorem dX13_error_32 : decode cX13_error 32 = .ok (.iload_n 3, 1) := by decide +kernel
theorem dX13_error_33 : decode cX13_error 33 = .ok (.iconst 2, 1) := by decide +kernel
theorem dX13_error_34 : decode cX13_error 34 = .ok (.invokevirtual 198, 3) := by decide +kernel
theorem dX13_error_37 : decode cX13_error 37 = .ok (.l2d, 1) := by decide +kernel
theorem dX13_error_38 : decode cX13_error 38 = .ok (.ddiv, 1) := by decide +kernel
theorem dX13_error_39 : decode cX13_error 39 = .ok (.dadd, 1) := by decide +kernel
theorem dX13_error_40 : decode cX13_error 40 = .ok (.dstore_n 1, 1) := by decide +kernel
theorem dX13_error_41 : decode cX13_error 41 = .ok (.iinc 3 1, 3) := by decide +kernel
theorem dX13_error_44 : decode cX13_error 44 = .ok (.goto (-36), 3) := by decide +kernel
theorem dX13_error_47 : decode cX13_error 47 = .ok (.dload_n 1, 1) := by decide +kernel
theorem dX13_error_48 : decode cX13_error 48 = .ok (.invokestatic 276, 3) := by decide +kernel
theorem dX13_error_51 : decode cX13_error 51 = .ok (.lreturn, 1) := by decide +kernel
theorem dX13_joint_0 : decode cX13_joint 0 = .ok (.aload_n 0, 1) := by decide +kernel
theorem dX13_joint_1 : decode cX13_joint 1 = .ok (.invokevirtual 249, 3) := by decide +kernel
theorem dX13_joint_4 : decode cX13_joint 4 = .ok (.iload_n 1, 1) := by decide +kernel
theorem dX13_joint_5 : decode cX13_joint 5 = .ok (.i2l, 1) := by decide +kernel
theorem dX13_joint_6 : decode cX13_joint 6 = .ok (.lconst 0, 1) := by decide +kernel
theorem dX13_joint_7 : decode cX13_joint 7 = .ok (.aload_n 0, 1) := by decide +kernel
theorem dX13_joint_8 : decode cX13_joint 8 = .ok (.getfield 195, 3) := by decide +kernel
theorem dX13_joint_11 : decode cX13_joint 11 = .ok (.iconst 2, 1) := by decide +kernel
theorem dX13_joint_12 : decode cX13_joint 12 = .ok (.isub, 1) := by decide +kernel
theorem dX13_joint_13 : decode cX13_joint 13 = .ok (.i2l, 1) := by decide +kernel
theorem dX13_joint_14 : decode cX13_joint 14 = .ok (.invokestatic 86, 3) := by decide +kernel
theorem dX13_joint_17 : decode cX13_joint 17 = .ok (.ifCond .eq 22, 3) := by decide +kernel
theorem dX13_joint_20 : decode cX13_joint 20 = .ok (.aload_n 0, 1) := by decide +kernel
theorem dX13_joint_21 : decode cX13_joint 21 = .ok (.iload_n 1, 1) := by decide +kernel
theorem dX13_joint_22 : decode cX13_joint 22 = .ok (.invokevirtual 223, 3) := by decide +kernel
theorem dX13_joint_25 : decode cX13_joint 25 = .ok (.l2d, 1) := by decide +kernel
theorem dX13_joint_26 : decode cX13_joint 26 = .ok (.aload_n 0, 1) := by decide +kernel
theorem dX13_joint_27 : decode cX13_joint 27 = .ok (.iload_n 1, 1) := by decide +kernel
theorem dX13_joint_28 : decode cX13_joint 28 = .ok (.invokevirtual 226, 3) := by decide +kernel
theorem dX13_joint_31 : decode cX13_joint 31 = .ok (.l2d, 1) := by decide +kernel
theorem dX13_joint_32 : decode cX13_joint 32 = .ok (.ddiv, 1) := by decide +kernel
theorem dX13_joint_33 : decode cX13_joint 33 = .ok (.invokestatic 276, 3) := by decide +kernel
theorem dX13_joint_36 : decode cX13_joint 36 = .ok (.goto 6, 3) := by decide +kernel
theorem dX13_joint_39 : decode cX13_joint 39 = .ok (.ldc2_w 274, 3) := by decide +kernel
theorem dX13_joint_42 : decode cX13_joint 42 = .ok (.lreturn, 1) := by decide +kernel
theorem dX13_areBoth_0 : decode cX13_areBoth 0 = .ok (.aload_n 0, 1) := by decide +kernel
theorem dX13_areBoth_1 : decode cX13_areBoth 1 = .ok (.iconst 0, 1) := by decide +kernel
theorem dX13_areBoth_2 : decode cX13_areBoth 2 = .ok (.aload_n 0, 1) := by decide +kernel
theorem dX13_areBoth_3 : decode cX13_areBoth 3 = .ok (.getfield 188, 3) := by decide +kernel
theorem dX13_areBoth_6 : decode cX13_areBoth 6 = .ok (.iconst 0, 1) := by decide +kernel
theorem dX13_areBoth_7 : decode cX13_areBoth 7 = .ok (.invokevirtual 191, 3) := by decide +kernel
theorem dX13_areBoth_10 : decode cX13_areBoth 10 = .ok (.lconst 0, 1) := by decide +kernel
theorem dX13_areBoth_11 : decode cX13_areBoth 11 = .ok (.lcmp, 1) := by decide +kernel
theorem dX13_areBoth_12 : decode cX13_areBoth 12 = .ok (.ifCond .le 22, 3) := by decide +kernel
theorem dX13_areBoth_15 : decode cX13_areBoth 15 = .ok (.aload_n 0, 1) := by decide +kernel
theorem dX13_areBoth_16 : decode cX13_areBoth 16 = .ok (.iconst 0, 1) := by decide +kernel
theorem dX13_areBoth_17 : decode cX13_areBoth 17 = .ok (.aload_n 0, 1) := by decide +kernel
theorem dX13_areBoth_18 : decode cX13_areBoth 18 = .ok (.getfield 188, 3) := by decide +kernel
theorem dX13_areBoth_21 : decode cX13_areBoth 21 = .ok (.iconst 1, 1) := by decide +kernel
theorem dX13_areBoth_22 : decode cX13_areBoth 22 = .ok (.invokevirtual 191, 3) := by decide +kernel
theorem dX13_areBoth_25 : decode cX13_areBoth 25 = .ok (.lconst 0, 1) := by decide +kernel
theorem dX13_areBoth_26 : decode cX13_areBoth 26 = .ok (.lcmp, 1) := by decide +kernel
theorem dX13_areBoth_27 : decode cX13_areBoth 27 = .ok (.ifCond .le 7, 3) := by decide +kernel
theorem dX13_areBoth_30 : decode cX13_areBoth 30 = .ok (.iconst 1, 1) := by decide +kernel
theorem dX13_areBoth_31 : decode cX13_areBoth 31 = .ok (.goto 4, 3) := by decide +kernel
theorem dX13_areBoth_34 : decode cX13_areBoth 34 = .ok (.iconst 0, 1) := by decide +kernel
theorem dX13_areBoth_35 : decode cX13_areBoth 35 = .ok (.ireturn, 1) := by decide +kernel
theorem dX13_auc_0 : decode cX13_auc 0 = .ok (.aload_n 0, 1) := by decide +kernel
theorem dX13_auc_1 : decode cX13_auc 1 = .ok (.invokevirtual 233, 3) := by decide +kernel
theorem dX13_auc_4 : decode cX13_auc 4 = .ok (.iload_n 1, 1) := by decide +kernel
theorem dX13_auc_5 : decode cX13_auc 5 = .ok (.i2l, 1) := by decide +kernel
theorem dX13_auc_6 : decode cX13_auc 6 = .ok (.lconst 0, 1) := by decide +kernel
theorem dX13_auc_7 : decode cX13_auc 7 = .ok (.lconst 1, 1) := by decide +kernel
theorem dX13_auc_8 : decode cX13_auc 8 = .ok (.invokestatic 86, 3) := by decide +kernel
theorem dX13_auc_11 : decode cX13_auc 11 = .ok (.ifCond .eq 10, 3) := by decide +kernel
theorem dX13_auc_14 : decode cX13_auc 14 = .ok (.aload_n 0, 1) := by decide +kernel
theorem dX13_auc_15 : decode cX13_auc 15 = .ok (.invokevirtual 287, 3) := by decide +kernel
theorem dX13_auc_18 : decode cX13_auc 18 = .ok (.ifCond .ne 7, 3) := by decide +kernel
theorem dX13_auc_21 : decode cX13_auc 21 = .ok (.ldc2_w 274, 3) := by decide +kernel
theorem dX13_auc_24 : decode cX13_auc 24 = .ok (.lreturn, 1) := by decide +kernel
theorem dX13_auc_25 : decode cX13_auc 25 = .ok (.lconst 0, 1) := by decide +kernel
theorem dX13_auc_26 : decode cX13_auc 26 = .ok (.lstore_n 2, 1) := by decide +kernel
theorem dX13_auc_27 : decode cX13_auc 27 = .ok (.iconst 0, 1) := by decide +kernel
theorem dX13_auc_28 : decode cX13_auc 28 = .ok (.istore 4, 2) := by decide +kernel
theorem dX13_auc_30 : decode cX13_auc 30 = .ok (.iload 4, 2) := by decide +kernel
theorem dX13_auc_32 : decode cX13_auc 32 = .ok (.aload_n 0, 1) := by decide +kernel
theorem dX13_auc_33 : decode cX13_auc 33 = .ok (.getfield 188, 3) := by decide +kernel
theorem dX13_auc_36 : decode cX13_auc 36 = .ok (.if_icmp .ge 48, 3) := by decide +kernel
theorem dX13_auc_39 : decode cX13_auc 39 = .ok (.lload_n 2, 1) := by decide +kernel
theorem dX13_auc_40 : decode cX13_auc 40 = .ok (.iconst 2, 1) := by decide +kernel
theorem dX13_auc_41 : decode cX13_auc 41 = .ok (.aload_n 0, 1) := by decide +kernel
theorem dX13_auc_42 : decode cX13_auc 42 = .ok (.getfield 51, 3) := by decide +kernel
theorem dX13_auc_45 : decode cX13_auc 45 = .ok (.iload 4, 2) := by decide +kernel
theorem dX13_auc_47 : decode cX13_auc 47 = .ok (.iaload, 1) := by decide +kernel
theorem dX13_auc_48 : decode cX13_auc 48 = .ok (.imul, 1) := by decide +kernel
theorem dX13_auc_49 : decode cX13_auc 49 = .ok (.i2l, 1) := by decide +kernel
theorem dX13_auc_50 : decode cX13_auc 50 = .ok (.aload_n 0, 1) := by decide +kernel
theorem dX13_auc_51 : decode cX13_auc 51 = .ok (.iconst 0, 1) := by decide +kernel
theorem dX13_auc_52 : decode cX13_auc 52 = .ok (.iload 4, 2) := by decide +kernel
theorem dX13_auc_54 : decode cX13_auc 54 = .ok (.iconst 1, 1) := by decide +kernel
theorem dX13_auc_55 : decode cX13_auc 55 = .ok (.invokevirtual 191, 3) := by decide +kernel
theorem dX13_auc_58 : decode cX13_auc 58 = .ok (.lmul, 1) := by decide +kernel
theorem dX13_auc_59 : decode cX13_auc 59 = .ok (.aload_n 0, 1) := by decide +kernel
theorem dX13_auc_60 : decode cX13_auc 60 = .ok (.getfield 51, 3) := by decide +kernel
theorem dX13_auc_63 : decode cX13_auc 63 = .ok (.iload 4, 2) := by decide +kernel
theorem dX13_auc_65 : decode cX13_auc 65 = .ok (.iaload, 1) := by decide +kernel
theorem dX13_auc_66 : decode cX13_auc 66 = .ok (.aload_n 0, 1) := by decide +kernel
theorem dX13_auc_67 : decode cX13_auc 67 = .ok (.getfield 54, 3) := by decide +kernel
theorem dX13_auc_70 : decode cX13_auc 70 = .ok (.iload 4, 2) := by decide +kernel
theorem dX13_auc_72 : decode cX13_auc 72 = .ok (.iaload, 1) := by decide +kernel
theorem dX13_auc_73 : decode cX13_auc 73 = .ok (.imul, 1) := by decide +kernel
theorem dX13_auc_74 : decode cX13_auc 74 = .ok (.i2l, 1) := by decide +kernel
theorem dX13_auc_75 : decode cX13_auc 75 = .ok (.ladd, 1) := by decide +kernel
theorem dX13_auc_76 : decode cX13_auc 76 = .ok (.ladd, 1) := by decide +kernel
theorem dX13_auc_77 : decode cX13_auc 77 = .ok (.lstore_n 2, 1) := by decide +kernel
theorem dX13_auc_78 : decode cX13_auc 78 = .ok (.iinc 4 1, 3) := by decide +kernel
theorem dX13_auc_81 : decode cX13_auc 81 = .ok (.goto (-51), 3) := by decide +kernel
theorem dX13_auc_84 : decode cX13_auc 84 = .ok (.lload_n 2, 1) := by decide +kernel
theorem dX13_auc_85 : decode cX13_auc 85 = .ok (.ldc2_w 291, 3) := by decide +kernel
theorem dX13_auc_88 : decode cX13_auc 88 = .ok (.aload_n 0, 1) := by decide +kernel
theorem dX13_auc_89 : decode cX13_auc 89 = .ok (.iconst 0, 1) := by decide +kernel
theorem dX13_auc_90 : decode cX13_auc 90 = .ok (.aload_n 0, 1) := by decide +kernel
theorem dX13_auc_91 : decode cX13_auc 91 = .ok (.getfield 188, 3) := by decide +kernel
theorem dX13_auc_94 : decode cX13_auc 94 = .ok (.iconst 0, 1) := by decide +kernel
theorem dX13_auc_95 : decode cX13_auc 95 = .ok (.invokevirtual 191, 3) := by decide +kernel
theorem dX13_auc_98 : decode cX13_auc 98 = .ok (.lmul, 1) := by decide +kernel
theorem dX13_auc_99 : decode cX13_auc 99 = .ok (.aload_n 0, 1) := by decide +kernel
theorem dX13_auc_100 : decode cX13_auc 100 = .ok (.iconst 0, 1) := by decide +kernel
theorem dX13_auc_101 : decode cX13_auc 101 = .ok (.aload_n 0, 1) := by decide +kernel
theorem dX13_auc_102 : decode cX13_auc 102 = .ok (.getfield 188, 3) := by decide +kernel
theorem dX13_auc_105 : decode cX13_auc 105 = .ok (.iconst 1, 1) := by decide +kernel
theorem dX13_auc_106 : decode cX13_auc 106 = .ok (.invokevirtual 191, 3) := by decide +kernel
theorem dX13_auc_109 : decode cX13_auc 109 = .ok (.lmul, 1) := by decide +kernel
theorem dX13_auc_110 : decode cX13_auc 110 = .ok (.iload_n 1, 1) := by decide +kernel
theorem dX13_auc_111 : decode cX13_auc 111 = .ok (.invokestatic 258, 3) := by decide +kernel
theorem dX13_auc_114 : decode cX13_auc 114 = .ok (.lreturn, 1) := by decide +kernel
theorem dX13_ks_0 : decode cX13_ks 0 = .ok (.aload_n 0, 1) := by decide +kernel
theorem dX13_ks_1 : decode cX13_ks 1 = .ok (.invokevirtual 233, 3) := by decide +kernel
theorem dX13_ks_4 : decode cX13_ks 4 = .ok (.iload_n 1, 1) := by decide +kernel
theorem dX13_ks_5 : decode cX13_ks 5 = .ok (.i2l, 1) := by decide +kernel
theorem dX13_ks_6 : decode cX13_ks 6 = .ok (.lconst 0, 1) := by decide +kernel
theorem dX13_ks_7 : decode cX13_ks 7 = .ok (.ldc2_w 291, 3) := by decide +kernel
theorem dX13_ks_10 : decode cX13_ks 10 = .ok (.invokestatic 86, 3) := by decide +kernel
theorem dX13_ks_13 : decode cX13_ks 13 = .ok (.ifCond .eq 10, 3) := by decide +kernel
theorem dX13_ks_16 : decode cX13_ks 16 = .ok (.aload_n 0, 1) := by decide +kernel
theorem dX13_ks_17 : decode cX13_ks 17 = .ok (.invokevirtual 287, 3) := by decide +kernel
theorem dX13_ks_20 : decode cX13_ks 20 = .ok (.ifCond .ne 7, 3) := by decide +kernel
theorem dX13_ks_23 : decode cX13_ks 23 = .ok (.ldc2_w 274, 3) := by decide +kernel
theorem dX13_ks_26 : decode cX13_ks 26 = .ok (.lreturn, 1) := by decide +kernel
theorem dX13_ks_27 : decode cX13_ks 27 = .ok (.aload_n 0, 1) := by decide +kernel
theorem dX13_ks_28 : decode cX13_ks 28 = .ok (.iconst 0, 1) := by decide +kernel
theorem dX13_ks_29 : decode cX13_ks 29 = .ok (.aload_n 0, 1) := by decide +kernel
theorem dX13_ks_30 : decode cX13_ks 30 = .ok (.getfield 188, 3) := by decide +kernel
theorem dX13_ks_33 : decode cX13_ks 33 = .ok (.iconst 0, 1) := by decide +kernel
theorem dX13_ks_34 : decode cX13_ks 34 = .ok (.invokevirtual 191, 3) := by decide +kernel
theorem dX13_ks_37 : decode cX13_ks 37 = .ok (.lstore_n 2, 1) := by decide +kernel
theorem dX13_ks_38 : decode cX13_ks 38 = .ok (.aload_n 0, 1) := by decide +kernel
theorem dX13_ks_39 : decode cX13_ks 39 = .ok (.iconst 0, 1) := by decide +kernel
theorem dX13_ks_40 : decode cX13_ks 40 = .ok (.aload_n 0, 1) := by decide +kernel
theorem dX13_ks_41 : decode cX13_ks 41 = .ok (.getfield 188, 3) := by decide +kernel
theorem dX13_ks_44 : decode cX13_ks 44 = .ok (.iconst 1, 1) := by decide +kernel
theorem dX13_ks_45 : decode cX13_ks 45 = .ok (.invokevirtual 191, 3) := by decide +kernel
theorem dX13_ks_48 : decode cX13_ks 48 = .ok (.lstore 4, 2) := by decide +kernel
theorem dX13_ks_50 : decode cX13_ks 50 = .ok (.ldc2_w 293, 3) := by decide +kernel
theorem dX13_ks_53 : decode cX13_ks 53 = .ok (.lstore 6, 2) := by decide +kernel
theorem dX13_ks_55 : decode cX13_ks 55 = .ok (.iconst 0, 1) := by decide +kernel
theorem dX13_ks_56 : decode cX13_ks 56 = .ok (.istore 8, 2) := by decide +kernel
theorem dX13_ks_58 : decode cX13_ks 58 = .ok (.iconst 0, 1) := by decide +kernel
theorem dX13_ks_59 : decode cX13_ks 59 = .ok (.istore 9, 2) := by decide +kernel
theorem dX13_ks_61 : decode cX13_ks 61 = .ok (.iload 9, 2) := by decide +kernel
theorem dX13_ks_63 : decode cX13_ks 63 = .ok (.aload_n 0, 1) := by decide +kernel
theorem dX13_ks_64 : decode cX13_ks 64 = .ok (.getfield 188, 3) := by decide +kernel
theorem dX13_ks_67 : decode cX13_ks 67 = .ok (.if_icmp .ge 61, 3) := by decide +kernel
theorem dX13_ks_70 : decode cX13_ks 70 = .ok (.aload_n 0, 1) := by decide +kernel
theorem dX13_ks_71 : decode cX13_ks 71 = .ok (.iconst 0, 1) := by decide +kernel
theorem dX13_ks_72 : decode cX13_ks 72 = .ok (.iload 9, 2) := by decide +kernel
theorem dX13_ks_74 : decode cX13_ks 74 = .ok (.iconst 1, 1) := by decide +kernel
theorem dX13_ks_75 : decode cX13_ks 75 = .ok (.iadd, 1) := by decide +kernel
theorem dX13_ks_76 : decode cX13_ks 76 = .ok (.iconst 0, 1) := by decide +kernel
theorem dX13_ks_77 : decode cX13_ks 77 = .ok (.invokevirtual 191, 3) := by decide +kernel
theorem dX13_ks_80 : decode cX13_ks 80 = .ok (.lload 4, 2) := by decide +kernel
theorem dX13_ks_82 : decode cX13_ks 82 = .ok (.lmul, 1) := by decide +kernel
theorem dX13_ks_83 : decode cX13_ks 83 = .ok (.aload_n 0, 1) := by decide +kernel
theorem dX13_ks_84 : decode cX13_ks 84 = .ok (.iconst 0, 1) := by decide +kernel
theorem dX13_ks_85 : decode cX13_ks 85 = .ok (.iload 9, 2) := by decide +kernel
theorem dX13_ks_87 : decode cX13_ks 87 = .ok (.iconst 1, 1) := by decide +kernel
theorem dX13_ks_88 : decode cX13_ks 88 = .ok (.iadd, 1) := by decide +kernel
theorem dX13_ks_89 : decode cX13_ks 89 = .ok (.iconst 1, 1) := by decide +kernel
theorem dX13_ks_90 : decode cX13_ks 90 = .ok (.invokevirtual 191, 3) := by decide +kernel
theorem dX13_ks_93 : decode cX13_ks 93 = .ok (.lload_n 2, 1) := by decide +kernel
theorem dX13_ks_94 : decode cX13_ks 94 = .ok (.lmul, 1) := by decide +kernel
theorem dX13_ks_95 : decode cX13_ks 95 = .ok (.lsub, 1) := by decide +kernel
theorem dX13_ks_96 : decode cX13_ks 96 = .ok (.invokestatic 295, 3) := by decide +kernel
theorem dX13_ks_99 : decode cX13_ks 99 = .ok (.lstore 10, 2) := by decide +kernel
theorem dX13_ks_101 : decode cX13_ks 101 = .ok (.lload 10, 2) := by decide +kernel
theorem dX13_ks_103 : decode cX13_ks 103 = .ok (.lload 6, 2) := by decide +kernel
theorem dX13_ks_105 : decode cX13_ks 105 = .ok (.lcmp, 1) := by decide +kernel
theorem dX13_ks_106 : decode cX13_ks 106 = .ok (.ifCond .le 16, 3) := by decide +kernel
theorem dX13_ks_109 : decode cX13_ks 109 = .ok (.lload 10, 2) := by decide +kernel
theorem dX13_ks_111 : decode cX13_ks 111 = .ok (.lstore 6, 2) := by decide +kernel
theorem dX13_ks_113 : decode cX13_ks 113 = .ok (.aload_n 0, 1) := by decide +kernel
theorem dX13_ks_114 : decode cX13_ks 114 = .ok (.getfield 48, 3) := by decide +kernel
theorem dX13_ks_117 : decode cX13_ks 117 = .ok (.iload 9, 2) := by decide +kernel
theorem dX13_ks_119 : decode cX13_ks 119 = .ok (.iaload, 1) := by decide +kernel
theorem dX13_ks_120 : decode cX13_ks 120 = .ok (.istore 8, 2) := by decide +kernel
theorem dX13_ks_122 : decode cX13_ks 122 = .ok (.iinc 9 1, 3) := by decide +kernel
theorem dX13_ks_125 : decode cX13_ks 125 = .ok (.goto (-64), 3) := by decide +kernel
theorem dX13_ks_128 : decode cX13_ks 128 = .ok (.iload_n 1, 1) := by decide +kernel
theorem dX13_ks_129 : decode cX13_ks 129 = .ok (.iconst 2, 1) := by decide +kernel
theorem dX13_ks_130 : decode cX13_ks 130 = .ok (.if_icmp .ne 9, 3) := by decide +kernel
theorem dX13_ks_133 : decode cX13_ks 133 = .ok (.iload 8, 2) := by decide +kernel
theorem dX13_ks_135 : decode cX13_ks 135 = .ok (.i2l, 1) := by decide +kernel
theorem dX13_ks_136 : decode cX13_ks 136 = .ok (.goto 13, 3) := by decide +kernel
theorem dX13_ks_139 : decode cX13_ks 139 = .ok (.lload 6, 2) := by decide +kernel
theorem dX13_ks_141 : decode cX13_ks 141 = .ok (.lload_n 2, 1) := by decide +kernel
theorem dX13_ks_142 : decode cX13_ks 142 = .ok (.lload 4, 2) := by decide +kernel
theorem dX13_ks_144 : decode cX13_ks 144 = .ok (.lmul, 1) := by decide +kernel
theorem dX13_ks_145 : decode cX13_ks 145 = .ok (.iload_n 1, 1) := by decide +kernel
theorem dX13_ks_146 : decode cX13_ks 146 = .ok (.invokestatic 258, 3) := by decide +kernel
theorem dX13_ks_149 : decode cX13_ks 149 = .ok (.lreturn, 1) := by decide +kernel
theorem dX13_hull_0 : decode cX13_hull 0 = .ok (.iload_n 1, 1) := by decide +kernel
theorem dX13_hull_1 : decode cX13_hull 1 = .ok (.ifCond .lt 13, 3) := by decide +kernel
theorem dX13_hull_4 : decode cX13_hull 4 = .ok (.iload_n 2, 1) := by decide +kernel
theorem dX13_hull_5 : decode cX13_hull 5 = .ok (.i2l, 1) := by decide +kernel
theorem dX13_hull_6 : decode cX13_hull 6 = .ok (.lconst 0, 1) := by decide +kernel
theorem dX13_hull_7 : decode cX13_hull 7 = .ok (.lconst 1, 1) := by decide +kernel
theorem dX13_hull_8 : decode cX13_hull 8 = .ok (.invokestatic 86, 3) := by decide +kernel
theorem dX13_hull_11 : decode cX13_hull 11 = .ok (.ifCond .ne 6, 3) := by decide +kernel
theorem dX13_hull_14 : decode cX13_hull 14 = .ok (.bipush (-2), 2) := by decide +kernel
theorem dX13_hull_16 : decode cX13_hull 16 = .ok (.ireturn, 1) := by decide +kernel
theorem dX13_hull_17 : decode cX13_hull 17 = .ok (.aload_n 0, 1) := by decide +kernel
theorem dX13_hull_18 : decode cX13_hull 18 = .ok (.invokevirtual 233, 3) := by decide +kernel
theorem dX13_hull_21 : decode cX13_hull 21 = .ok (.aload_n 0, 1) := by decide +kernel
theorem dX13_hull_22 : decode cX13_hull 22 = .ok (.invokevirtual 236, 3) := by decide +kernel
theorem dX13_hull_25 : decode cX13_hull 25 = .ok (.aload_n 0, 1) := by decide +kernel
theorem dX13_hull_26 : decode cX13_hull 26 = .ok (.getfield 188, 3) := by decide +kernel
theorem dX13_hull_29 : decode cX13_hull 29 = .ok (.ifCond .le 27, 3) := by decide +kernel
theorem dX13_hull_32 : decode cX13_hull 32 = .ok (.iload_n 1, 1) := by decide +kernel
theorem dX13_hull_33 : decode cX13_hull 33 = .ok (.aload_n 0, 1) := by decide +kernel
theorem dX13_hull_34 : decode cX13_hull 34 = .ok (.getfield 195, 3) := by decide +kernel
theorem dX13_hull_37 : decode cX13_hull 37 = .ok (.if_icmp .gt 19, 3) := by decide +kernel
theorem dX13_hull_40 : decode cX13_hull 40 = .ok (.aload_n 0, 1) := by decide +kernel
theorem dX13_hull_41 : decode cX13_hull 41 = .ok (.iconst 0, 1) := by decide +kernel
theorem dX13_hull_42 : decode cX13_hull 42 = .ok (.aload_n 0, 1) := by decide +kernel
theorem dX13_hull_43 : decode cX13_hull 43 = .ok (.getfield 57, 3) := by decide +kernel
theorem dX13_hull_46 : decode cX13_hull 46 = .ok (.iload_n 1, 1) := by decide +kernel
theorem dX13_hull_47 : decode cX13_hull 47 = .ok (.iaload, 1) := by decide +kernel
theorem dX13_hull_48 : decode cX13_hull 48 = .ok (.iload_n 2, 1) := by decide +kernel
theorem dX13_hull_49 : decode cX13_hull 49 = .ok (.invokevirtual 191, 3) := by decide +kernel
theorem dX13_hull_52 : decode cX13_hull 52 = .ok (.l2i, 1) := by decide +kernel
theorem dX13_hull_53 : decode cX13_hull 53 = .ok (.goto 4, 3) := by decide +kernel
theorem dX13_hull_56 : decode cX13_hull 56 = .ok (.iconst (-1), 1) := by decide +kernel
theorem dX13_hull_57 : decode cX13_hull 57 = .ok (.ireturn, 1) := by decide +kernel
theorem dX13_laysBelow_0 : decode cX13_laysBelow 0 = .ok (.aload_n 0, 1) := by decide +kernel
theorem dX13_laysBelow_1 : decode cX13_laysBelow 1 = .ok (.invokevirtual 233, 3) := by decide +kernel
theorem dX13_laysBelow_4 : decode cX13_laysBelow 4 = .ok (.lconst 0, 1) := by decide +kernel
theorem dX13_laysBelow_5 : decode cX13_laysBelow 5 = .ok (.lstore_n 1, 1) := by decide +kernel
theorem dX13_laysBelow_6 : decode cX13_laysBelow 6 = .ok (.lconst 0, 1) := by decide +kernel
theorem dX13_laysBelow_7 : decode cX13_laysBelow 7 = .ok (.lstore_n 3, 1) := by decide +kernel
theorem dX13_laysBelow_8 : decode cX13_laysBelow 8 = .ok (.iconst 0, 1) := by decide +kernel
theorem dX13_laysBelow_9 : decode cX13_laysBelow 9 = .ok (.istore 5, 2) := by decide +kernel
theorem dX13_laysBelow_11 : decode cX13_laysBelow 11 = .ok (.iconst 0, 1) := by decide +kernel
theorem dX13_laysBelow_12 : decode cX13_laysBelow 12 = .ok (.istore 6, 2) := by decide +kernel
theorem dX13_laysBelow_14 : decode cX13_laysBelow 14 = .ok (.iload 6, 2) := by decide +kernel
theorem dX13_laysBelow_16 : decode cX13_laysBelow 16 = .ok (.sipush 1000, 3) := by decide +kernel
theorem dX13_laysBelow_19 : decode cX13_laysBelow 19 = .ok (.if_icmp .gt 77, 3) := by decide +kernel
theorem dX13_laysBelow_22 : decode cX13_laysBelow 22 = .ok (.aload_n 0, 1) := by decide +kernel
theorem dX13_laysBelow_23 : decode cX13_laysBelow 23 = .ok (.getfield 60, 3) := by decide +kernel
theorem dX13_laysBelow_26 : decode cX13_laysBelow 26 = .ok (.iconst 2, 1) := by decide +kernel
theorem dX13_laysBelow_27 : decode cX13_laysBelow 27 = .ok (.iload 6, 2) := by decide +kernel
theorem dX13_laysBelow_29 : decode cX13_laysBelow 29 = .ok (.imul, 1) := by decide +kernel
theorem dX13_laysBelow_30 : decode cX13_laysBelow 30 = .ok (.lload_n 1, 1) := by decide +kernel
theorem dX13_laysBelow_31 : decode cX13_laysBelow 31 = .ok (.lastore, 1) := by decide +kernel
theorem dX13_laysBelow_32 : decode cX13_laysBelow 32 = .ok (.aload_n 0, 1) := by decide +kernel
theorem dX13_laysBelow_33 : decode cX13_laysBelow 33 = .ok (.getfield 60, 3) := by decide +kernel
theorem dX13_laysBelow_36 : decode cX13_laysBelow 36 = .ok (.iconst 2, 1) := by decide +kernel
theorem dX13_laysBelow_37 : decode cX13_laysBelow 37 = .ok (.iload 6, 2) := by decide +kernel
theorem dX13_laysBelow_39 : decode cX13_laysBelow 39 = .ok (.imul, 1) := by decide +kernel
theorem dX13_laysBelow_40 : decode cX13_laysBelow 40 = .ok (.iconst 1, 1) := by decide +kernel
theorem dX13_laysBelow_41 : decode cX13_laysBelow 41 = .ok (.iadd, 1) := by decide +kernel
theorem dX13_laysBelow_42 : decode cX13_laysBelow 42 = .ok (.lload_n 3, 1) := by decide +kernel
theorem dX13_laysBelow_43 : decode cX13_laysBelow 43 = .ok (.lastore, 1) := by decide +kernel
theorem dX13_laysBelow_44 : decode cX13_laysBelow 44 = .ok (.iload 5, 2) := by decide +kernel
theorem dX13_laysBelow_46 : decode cX13_laysBelow 46 = .ok (.aload_n 0, 1) := by decide +kernel
theorem dX13_laysBelow_47 : decode cX13_laysBelow 47 = .ok (.getfield 188, 3) := by decide +kernel
theorem dX13_laysBelow_50 : decode cX13_laysBelow 50 = .ok (.if_icmp .ge 40, 3) := by decide +kernel
theorem dX13_laysBelow_53 : decode cX13_laysBelow 53 = .ok (.aload_n 0, 1) := by decide +kernel
theorem dX13_laysBelow_54 : decode cX13_laysBelow 54 = .ok (.getfield 48, 3) := by decide +kernel
theorem dX13_laysBelow_57 : decode cX13_laysBelow 57 = .ok (.iload 5, 2) := by decide +kernel
theorem dX13_laysBelow_59 : decode cX13_laysBelow 59 = .ok (.iaload, 1) := by decide +kernel
theorem dX13_laysBelow_60 : decode cX13_laysBelow 60 = .ok (.iload 6, 2) := by decide +kernel
theorem dX13_laysBelow_62 : decode cX13_laysBelow 62 = .ok (.if_icmp .ne 28, 3) := by decide +kernel
theorem dX13_laysBelow_65 : decode cX13_laysBelow 65 = .ok (.lload_n 1, 1) := by decide +kernel
theorem dX13_laysBelow_66 : decode cX13_laysBelow 66 = .ok (.aload_n 0, 1) := by decide +kernel
theorem dX13_laysBelow_67 : decode cX13_laysBelow 67 = .ok (.getfield 51, 3) := by decide +kernel
theorem dX13_laysBelow_70 : decode cX13_laysBelow 70 = .ok (.iload 5, 2) := by decide +kernel
theorem dX13_laysBelow_72 : decode cX13_laysBelow 72 = .ok (.iaload, 1) := by decide +kernel
theorem dX13_laysBelow_73 : decode cX13_laysBelow 73 = .ok (.i2l, 1) := by decide +kernel
theorem dX13_laysBelow_74 : decode cX13_laysBelow 74 = .ok (.ladd, 1) := by decide +kernel
theorem dX13_laysBelow_75 : decode cX13_laysBelow 75 = .ok (.lstore_n 1, 1) := by decide +kernel
theorem dX13_laysBelow_76 : decode cX13_laysBelow 76 = .ok (.lload_n 3, 1) := by decide +kernel
theorem dX13_laysBelow_77 : decode cX13_laysBelow 77 = .ok (.aload_n 0, 1) := by decide +kernel
theorem dX13_laysBelow_78 : decode cX13_laysBelow 78 = .ok (.getfield 54, 3) := by decide +kernel
theorem dX13_laysBelow_81 : decode cX13_laysBelow 81 = .ok (.iload 5, 2) := by decide +kernel
theorem dX13_laysBelow_83 : decode cX13_laysBelow 83 = .ok (.iaload, 1) := by decide +kernel
theorem dX13_laysBelow_84 : decode cX13_laysBelow 84 = .ok (.i2l, 1) := by decide +kernel
theorem dX13_laysBelow_85 : decode cX13_laysBelow 85 = .ok (.ladd, 1) := by decide +kernel
theorem dX13_laysBelow_86 : decode cX13_laysBelow 86 = .ok (.lstore_n 3, 1) := by decide +kernel
theorem dX13_laysBelow_87 : decode cX13_laysBelow 87 = .ok (.iinc 5 1, 3) := by decide +kernel
theorem dX13_laysBelow_90 : decode cX13_laysBelow 90 = .ok (.iinc 6 1, 3) := by decide +kernel
theorem dX13_laysBelow_93 : decode cX13_laysBelow 93 = .ok (.goto (-79), 3) := by decide +kernel
theorem dX13_laysBelow_96 : decode cX13_laysBelow 96 = .ok (.return_, 1) := by decide +kernel
theorem dX13_allGood_0 : decode cX13_allGood 0 = .ok (.aload_n 0, 1) := by decide +kernel
theorem dX13_allGood_1 : decode cX13_allGood 1 = .ok (.getfield 60, 3) := by decide +kernel
theorem dX13_allGood_4 : decode cX13_allGood 4 = .ok (.sipush 2000, 3) := by decide +kernel
theorem dX13_allGood_7 : decode cX13_allGood 7 = .ok (.laload, 1) := by decide +kernel
theorem dX13_allGood_8 : decode cX13_allGood 8 = .ok (.lreturn, 1) := by decide +kernel
theorem dX13_allBad_0 : decode cX13_allBad 0 = .ok (.aload_n 0, 1) := by decide +kernel
theorem dX13_allBad_1 : decode cX13_allBad 1 = .ok (.getfield 60, 3) := by decide +kernel
theorem dX13_allBad_4 : decode cX13_allBad 4 = .ok (.sipush 2001, 3) := by decide +kernel
theorem dX13_allBad_7 : decode cX13_allBad 7 = .ok (.laload, 1) := by decide +kernel
theorem dX13_allBad_8 : decode cX13_allBad 8 = .ok (.lreturn, 1) := by decide +kernel
theorem dX13_costOf_0 : decode cX13_costOf 0 = .ok (.aload_n 0, 1) := by decide +kernel
theorem dX13_costOf_1 : decode cX13_costOf 1 = .ok (.getfield 60, 3) := by decide +kernel
theorem dX13_costOf_4 : decode cX13_costOf 4 = .ok (.iconst 2, 1) := by decide +kernel
theorem dX13_costOf_5 : decode cX13_costOf 5 = .ok (.iload_n 2, 1) := by decide +kernel
theorem dX13_costOf_6 : decode cX13_costOf 6 = .ok (.imul, 1) := by decide +kernel
theorem dX13_costOf_7 : decode cX13_costOf 7 = .ok (.laload, 1) := by decide +kernel
theorem dX13_costOf_8 : decode cX13_costOf 8 = .ok (.aload_n 0, 1) := by decide +kernel
theorem dX13_costOf_9 : decode cX13_costOf 9 = .ok (.getfield 60, 3) := by decide +kernel
theorem dX13_costOf_12 : decode cX13_costOf 12 = .ok (.iconst 2, 1) := by decide +kernel
theorem dX13_costOf_13 : decode cX13_costOf 13 = .ok (.iload_n 1, 1) := by decide +kernel
theorem dX13_costOf_14 : decode cX13_costOf 14 = .ok (.imul, 1) := by decide +kernel
theorem dX13_costOf_15 : decode cX13_costOf 15 = .ok (.laload, 1) := by decide +kernel
theorem dX13_costOf_16 : decode cX13_costOf 16 = .ok (.lsub, 1) := by decide +kernel
theorem dX13_costOf_17 : decode cX13_costOf 17 = .ok (.aload_n 0, 1) := by decide +kernel
theorem dX13_costOf_18 : decode cX13_costOf 18 = .ok (.getfield 60, 3) := by decide +kernel
theorem dX13_costOf_21 : decode cX13_costOf 21 = .ok (.iconst 2, 1) := by decide +kernel
theorem dX13_costOf_22 : decode cX13_costOf 22 = .ok (.iload_n 2, 1) := by decide +kernel
theorem dX13_costOf_23 : decode cX13_costOf 23 = .ok (.imul, 1) := by decide +kernel
theorem dX13_costOf_24 : decode cX13_costOf 24 = .ok (.iconst 1, 1) := by decide +kernel
theorem dX13_costOf_25 : decode cX13_costOf 25 = .ok (.iadd, 1) := by decide +kernel
theorem dX13_costOf_26 : decode cX13_costOf 26 = .ok (.laload, 1) := by decide +kernel
theorem dX13_costOf_27 : decode cX13_costOf 27 = .ok (.ladd, 1) := by decide +kernel
theorem dX13_costOf_28 : decode cX13_costOf 28 = .ok (.aload_n 0, 1) := by decide +kernel
theorem dX13_costOf_29 : decode cX13_costOf 29 = .ok (.getfield 60, 3) := by decide +kernel
theorem dX13_costOf_32 : decode cX13_costOf 32 = .ok (.iconst 2, 1) := by decide +kernel
theorem dX13_costOf_33 : decode cX13_costOf 33 = .ok (.iload_n 1, 1) := by decide +kernel
theorem dX13_costOf_34 : decode cX13_costOf 34 = .ok (.imul, 1) := by decide +kernel
theorem dX13_costOf_35 : decode cX13_costOf 35 = .ok (.iconst 1, 1) := by decide +kernel
theorem dX13_costOf_36 : decode cX13_costOf 36 = .ok (.iadd, 1) := by decide +kernel
theorem dX13_costOf_37 : decode cX13_costOf 37 = .ok (.laload, 1) := by decide +kernel
theorem dX13_costOf_38 : decode cX13_costOf 38 = .ok (.lsub, 1) := by decide +kernel
theorem dX13_costOf_39 : decode cX13_costOf 39 = .ok (.lstore 5, 2) := by decide +kernel
theorem dX13_costOf_41 : decode cX13_costOf 41 = .ok (.iload_n 3, 1) := by decide +kernel
theorem dX13_costOf_42 : decode cX13_costOf 42 = .ok (.i2l, 1) := by decide +kernel
theorem dX13_costOf_43 : decode cX13_costOf 43 = .ok (.aload_n 0, 1) := by decide +kernel
theorem dX13_costOf_44 : decode cX13_costOf 44 = .ok (.getfield 60, 3) := by decide +kernel
theorem dX13_costOf_47 : decode cX13_costOf 47 = .ok (.iconst 2, 1) := by decide +kernel
theorem dX13_costOf_48 : decode cX13_costOf 48 = .ok (.iload_n 1, 1) := by decide +kernel
theorem dX13_costOf_49 : decode cX13_costOf 49 = .ok (.imul, 1) := by decide +kernel
theorem dX13_costOf_50 : decode cX13_costOf 50 = .ok (.laload, 1) := by decide +kernel
theorem dX13_costOf_51 : decode cX13_costOf 51 = .ok (.lmul, 1) := by decide +kernel
theorem dX13_costOf_52 : decode cX13_costOf 52 = .ok (.iload 4, 2) := by decide +kernel
theorem dX13_costOf_54 : decode cX13_costOf 54 = .ok (.i2l, 1) := by decide +kernel
theorem dX13_costOf_55 : decode cX13_costOf 55 = .ok (.aload_n 0, 1) := by decide +kernel
theorem dX13_costOf_56 : decode cX13_costOf 56 = .ok (.invokevirtual 299, 3) := by decide +kernel
theorem dX13_costOf_59 : decode cX13_costOf 59 = .ok (.aload_n 0, 1) := by decide +kernel
theorem dX13_costOf_60 : decode cX13_costOf 60 = .ok (.getfield 60, 3) := by decide +kernel
theorem dX13_costOf_63 : decode cX13_costOf 63 = .ok (.iconst 2, 1) := by decide +kernel
theorem dX13_costOf_64 : decode cX13_costOf 64 = .ok (.iload_n 2, 1) := by decide +kernel
theorem dX13_costOf_65 : decode cX13_costOf 65 = .ok (.imul, 1) := by decide +kernel
theorem dX13_costOf_66 : decode cX13_costOf 66 = .ok (.iconst 1, 1) := by decide +kernel
theorem dX13_costOf_67 : decode cX13_costOf 67 = .ok (.iadd, 1) := by decide +kernel
theorem dX13_costOf_68 : decode cX13_costOf 68 = .ok (.laload, 1) := by decide +kernel
theorem dX13_costOf_69 : decode cX13_costOf 69 = .ok (.lsub, 1) := by decide +kernel
theorem dX13_costOf_70 : decode cX13_costOf 70 = .ok (.lmul, 1) := by decide +kernel
theorem dX13_costOf_71 : decode cX13_costOf 71 = .ok (.ladd, 1) := by decide +kernel
theorem dX13_costOf_72 : decode cX13_costOf 72 = .ok (.aload_n 0, 1) := by decide +kernel
theorem dX13_costOf_73 : decode cX13_costOf 73 = .ok (.getfield 15, 3) := by decide +kernel
theorem dX13_costOf_76 : decode cX13_costOf 76 = .ok (.sipush 3205, 3) := by decide +kernel
theorem dX13_costOf_79 : decode cX13_costOf 79 = .ok (.iaload, 1) := by decide +kernel
theorem dX13_costOf_80 : decode cX13_costOf 80 = .ok (.i2l, 1) := by decide +kernel
theorem dX13_costOf_81 : decode cX13_costOf 81 = .ok (.lload 5, 2) := by decide +kernel
theorem dX13_costOf_83 : decode cX13_costOf 83 = .ok (.lmul, 1) := by decide +kernel
theorem dX13_costOf_84 : decode cX13_costOf 84 = .ok (.ladd, 1) := by decide +kernel
theorem dX13_costOf_85 : decode cX13_costOf 85 = .ok (.lreturn, 1) := by decide +kernel
theorem dX13_bestCut_0 : decode cX13_bestCut 0 = .ok (.iconst 0, 1) := by decide +kernel
theorem dX13_bestCut_1 : decode cX13_bestCut 1 = .ok (.istore_n 3, 1) := by decide +kernel
theorem dX13_bestCut_2 : decode cX13_bestCut 2 = .ok (.iconst 1, 1) := by decide +kernel
theorem dX13_bestCut_3 : decode cX13_bestCut 3 = .ok (.istore 4, 2) := by decide +kernel
theorem dX13_bestCut_5 : decode cX13_bestCut 5 = .ok (.iload 4, 2) := by decide +kernel
theorem dX13_bestCut_7 : decode cX13_bestCut 7 = .ok (.sipush 1000, 3) := by decide +kernel
theorem dX13_bestCut_10 : decode cX13_bestCut 10 = .ok (.if_icmp .gt 38, 3) := by decide +kernel
theorem dX13_bestCut_13 : decode cX13_bestCut 13 = .ok (.aload_n 0, 1) := by decide +kernel
theorem dX13_bestCut_14 : decode cX13_bestCut 14 = .ok (.iload 4, 2) := by decide +kernel
theorem dX13_bestCut_16 : decode cX13_bestCut 16 = .ok (.iload 4, 2) := by decide +kernel
theorem dX13_bestCut_18 : decode cX13_bestCut 18 = .ok (.iload_n 1, 1) := by decide +kernel
theorem dX13_bestCut_19 : decode cX13_bestCut 19 = .ok (.iload_n 2, 1) := by decide +kernel
theorem dX13_bestCut_20 : decode cX13_bestCut 20 = .ok (.invokevirtual 303, 3) := by decide +kernel
theorem dX13_bestCut_23 : decode cX13_bestCut 23 = .ok (.aload_n 0, 1) := by decide +kernel
theorem dX13_bestCut_24 : decode cX13_bestCut 24 = .ok (.iload_n 3, 1) := by decide +kernel
theorem dX13_bestCut_25 : decode cX13_bestCut 25 = .ok (.iload_n 3, 1) := by decide +kernel
theorem dX13_bestCut_26 : decode cX13_bestCut 26 = .ok (.iload_n 1, 1) := by decide +kernel
theorem dX13_bestCut_27 : decode cX13_bestCut 27 = .ok (.iload_n 2, 1) := by decide +kernel
theorem dX13_bestCut_28 : decode cX13_bestCut 28 = .ok (.invokevirtual 303, 3) := by decide +kernel
theorem dX13_bestCut_31 : decode cX13_bestCut 31 = .ok (.lcmp, 1) := by decide +kernel
theorem dX13_bestCut_32 : decode cX13_bestCut 32 = .ok (.ifCond .ge 8, 3) := by decide +kernel
theorem dX13_bestCut_35 : decode cX13_bestCut 35 = .ok (.iload 4, 2) := by decide +kernel
theorem dX13_bestCut_37 : decode cX13_bestCut 37 = .ok (.goto 4, 3) := by decide +kernel
theorem dX13_bestCut_40 : decode cX13_bestCut 40 = .ok (.iload_n 3, 1) := by decide +kernel
theorem dX13_bestCut_41 : decode cX13_bestCut 41 = .ok (.istore_n 3, 1) := by decide +kernel
theorem dX13_bestCut_42 : decode cX13_bestCut 42 = .ok (.iinc 4 1, 3) := by decide +kernel
theorem dX13_bestCut_45 : decode cX13_bestCut 45 = .ok (.goto (-40), 3) := by decide +kernel
theorem dX13_bestCut_48 : decode cX13_bestCut 48 = .ok (.iload_n 3, 1) := by decide +kernel
theorem dX13_bestCut_49 : decode cX13_bestCut 49 = .ok (.ireturn, 1) := by decide +kernel
theorem dX13_isCut_0 : decode cX13_isCut 0 = .ok (.iload_n 0, 1) := by decide +kernel
theorem dX13_isCut_1 : decode cX13_isCut 1 = .ok (.i2l, 1) := by decide +kernel
theorem dX13_isCut_2 : decode cX13_isCut 2 = .ok (.lconst 0, 1) := by decide +kernel
theorem dX13_isCut_3 : decode cX13_isCut 3 = .ok (.ldc2_w 307, 3) := by decide +kernel
theorem dX13_isCut_6 : decode cX13_isCut 6 = .ok (.invokestatic 86, 3) := by decide +kernel
theorem dX13_isCut_9 : decode cX13_isCut 9 = .ok (.ireturn, 1) := by decide +kernel
theorem dX13_cost_0 : decode cX13_cost 0 = .ok (.aload_n 0, 1) := by decide +kernel
theorem dX13_cost_1 : decode cX13_cost 1 = .ok (.invokevirtual 309, 3) := by decide +kernel
theorem dX13_cost_4 : decode cX13_cost 4 = .ok (.iload_n 1, 1) := by decide +kernel
theorem dX13_cost_5 : decode cX13_cost 5 = .ok (.invokestatic 312, 3) := by decide +kernel
theorem dX13_cost_8 : decode cX13_cost 8 = .ok (.ifCond .eq 29, 3) := by decide +kernel
theorem dX13_cost_11 : decode cX13_cost 11 = .ok (.aload_n 0, 1) := by decide +kernel
theorem dX13_cost_12 : decode cX13_cost 12 = .ok (.iload_n 1, 1) := by decide +kernel
theorem dX13_cost_13 : decode cX13_cost 13 = .ok (.iload_n 1, 1) := by decide +kernel
theorem dX13_cost_14 : decode cX13_cost 14 = .ok (.aload_n 0, 1) := by decide +kernel
theorem dX13_cost_15 : decode cX13_cost 15 = .ok (.getfield 15, 3) := by decide +kernel
theorem dX13_cost_18 : decode cX13_cost 18 = .ok (.sipush 3203, 3) := by decide +kernel
theorem dX13_cost_21 : decode cX13_cost 21 = .ok (.iaload, 1) := by decide +kernel
theorem dX13_cost_22 : decode cX13_cost 22 = .ok (.aload_n 0, 1) := by decide +kernel
theorem dX13_cost_23 : decode cX13_cost 23 = .ok (.getfield 15, 3) := by decide +kernel
theorem dX13_cost_26 : decode cX13_cost 26 = .ok (.sipush 3204, 3) := by decide +kernel
theorem dX13_cost_29 : decode cX13_cost 29 = .ok (.iaload, 1) := by decide +kernel
theorem dX13_cost_30 : decode cX13_cost 30 = .ok (.invokevirtual 303, 3) := by decide +kernel
theorem dX13_cost_33 : decode cX13_cost 33 = .ok (.l2i, 1) := by decide +kernel
theorem dX13_cost_34 : decode cX13_cost 34 = .ok (.goto 5, 3) := by decide +kernel
theorem dX13_cost_37 : decode cX13_cost 37 = .ok (.bipush (-2), 2) := by decide +kernel
theorem dX13_cost_39 : decode cX13_cost 39 = .ok (.ireturn, 1) := by decide +kernel
theorem dX13_cut_0 : decode cX13_cut 0 = .ok (.iload_n 1, 1) := by decide +kernel
theorem dX13_cut_1 : decode cX13_cut 1 = .ok (.i2l, 1) := by decide +kernel
theorem dX13_cut_2 : decode cX13_cut 2 = .ok (.lconst 0, 1) := by decide +kernel
theorem dX13_cut_3 : decode cX13_cut 3 = .ok (.lconst 1, 1) := by decide +kernel
theorem dX13_cut_4 : decode cX13_cut 4 = .ok (.invokestatic 86, 3) := by decide +kernel
theorem dX13_cut_7 : decode cX13_cut 7 = .ok (.ifCond .ne 6, 3) := by decide +kernel
theorem dX13_cut_10 : decode cX13_cut 10 = .ok (.bipush (-2), 2) := by decide +kernel
theorem dX13_cut_12 : decode cX13_cut 12 = .ok (.ireturn, 1) := by decide +kernel
theorem dX13_cut_13 : decode cX13_cut 13 = .ok (.aload_n 0, 1) := by decide +kernel
theorem dX13_cut_14 : decode cX13_cut 14 = .ok (.invokevirtual 309, 3) := by decide +kernel
theorem dX13_cut_17 : decode cX13_cut 17 = .ok (.aload_n 0, 1) := by decide +kernel
theorem dX13_cut_18 : decode cX13_cut 18 = .ok (.aload_n 0, 1) := by decide +kernel
theorem dX13_cut_19 : decode cX13_cut 19 = .ok (.getfield 15, 3) := by decide +kernel
theorem dX13_cut_22 : decode cX13_cut 22 = .ok (.sipush 3203, 3) := by decide +kernel
theorem dX13_cut_25 : decode cX13_cut 25 = .ok (.iaload, 1) := by decide +kernel
theorem dX13_cut_26 : decode cX13_cut 26 = .ok (.aload_n 0, 1) := by decide +kernel
theorem dX13_cut_27 : decode cX13_cut 27 = .ok (.getfield 15, 3) := by decide +kernel
theorem dX13_cut_30 : decode cX13_cut 30 = .ok (.sipush 3204, 3) := by decide +kernel
theorem dX13_cut_33 : decode cX13_cut 33 = .ok (.iaload, 1) := by decide +kernel
theorem dX13_cut_34 : decode cX13_cut 34 = .ok (.invokevirtual 315, 3) := by decide +kernel
theorem dX13_cut_37 : decode cX13_cut 37 = .ok (.istore_n 2, 1) := by decide +kernel
theorem dX13_cut_38 : decode cX13_cut 38 = .ok (.iload_n 1, 1) := by decide +kernel
theorem dX13_cut_39 : decode cX13_cut 39 = .ok (.ifCond .ne 7, 3) := by decide +kernel
theorem dX13_cut_42 : decode cX13_cut 42 = .ok (.iload_n 2, 1) := by decide +kernel
theorem dX13_cut_43 : decode cX13_cut 43 = .ok (.goto 8, 3) := by decide +kernel
theorem dX13_cut_46 : decode cX13_cut 46 = .ok (.aload_n 0, 1) := by decide +kernel
theorem dX13_cut_47 : decode cX13_cut 47 = .ok (.iload_n 2, 1) := by decide +kernel
theorem dX13_cut_48 : decode cX13_cut 48 = .ok (.invokevirtual 318, 3) := by decide +kernel
theorem dX13_cut_51 : decode cX13_cut 51 = .ok (.ireturn, 1) := by decide +kernel
theorem dX13_refer_0 : decode cX13_refer 0 = .ok (.aload_n 0, 1) := by decide +kernel
theorem dX13_refer_1 : decode cX13_refer 1 = .ok (.invokevirtual 309, 3) := by decide +kernel
theorem dX13_refer_4 : decode cX13_refer 4 = .ok (.iload_n 1, 1) := by decide +kernel
theorem dX13_refer_5 : decode cX13_refer 5 = .ok (.invokestatic 312, 3) := by decide +kernel
theorem dX13_refer_8 : decode cX13_refer 8 = .ok (.ifCond .eq 41, 3) := by decide +kernel
theorem dX13_refer_11 : decode cX13_refer 11 = .ok (.iload_n 2, 1) := by decide +kernel
theorem dX13_refer_12 : decode cX13_refer 12 = .ok (.invokestatic 312, 3) := by decide +kernel
theorem dX13_refer_15 : decode cX13_refer 15 = .ok (.ifCond .eq 34, 3) := by decide +kernel
theorem dX13_refer_18 : decode cX13_refer 18 = .ok (.iload_n 1, 1) := by decide +kernel
theorem dX13_refer_19 : decode cX13_refer 19 = .ok (.iload_n 2, 1) := by decide +kernel
theorem dX13_refer_20 : decode cX13_refer 20 = .ok (.if_icmp .gt 29, 3) := by decide +kernel
theorem dX13_refer_23 : decode cX13_refer 23 = .ok (.aload_n 0, 1) := by decide +kernel
theorem dX13_refer_24 : decode cX13_refer 24 = .ok (.iload_n 1, 1) := by decide +kernel
theorem dX13_refer_25 : decode cX13_refer 25 = .ok (.iload_n 2, 1) := by decide +kernel
theorem dX13_refer_26 : decode cX13_refer 26 = .ok (.aload_n 0, 1) := by decide +kernel
theorem dX13_refer_27 : decode cX13_refer 27 = .ok (.getfield 15, 3) := by decide +kernel
theorem dX13_refer_30 : decode cX13_refer 30 = .ok (.sipush 3203, 3) := by decide +kernel
theorem dX13_refer_33 : decode cX13_refer 33 = .ok (.iaload, 1) := by decide +kernel
theorem dX13_refer_34 : decode cX13_refer 34 = .ok (.aload_n 0, 1) := by decide +kernel
theorem dX13_refer_35 : decode cX13_refer 35 = .ok (.getfield 15, 3) := by decide +kernel
theorem dX13_refer_38 : decode cX13_refer 38 = .ok (.sipush 3204, 3) := by decide +kernel
theorem dX13_refer_41 : decode cX13_refer 41 = .ok (.iaload, 1) := by decide +kernel
theorem dX13_refer_42 : decode cX13_refer 42 = .ok (.invokevirtual 303, 3) := by decide +kernel
theorem dX13_refer_45 : decode cX13_refer 45 = .ok (.l2i, 1) := by decide +kernel
theorem dX13_refer_46 : decode cX13_refer 46 = .ok (.goto 5, 3) := by decide +kernel
theorem dX13_refer_49 : decode cX13_refer 49 = .ok (.bipush (-2), 2) := by decide +kernel
theorem dX13_refer_51 : decode cX13_refer 51 = .ok (.ireturn, 1) := by decide +kernel
theorem dX13_laysTwo_0 : decode cX13_laysTwo 0 = .ok (.aload_n 0, 1) := by decide +kernel
theorem dX13_laysTwo_1 : decode cX13_laysTwo 1 = .ok (.invokevirtual 309, 3) := by decide +kernel
theorem dX13_laysTwo_4 : decode cX13_laysTwo 4 = .ok (.aload_n 0, 1) := by decide +kernel
theorem dX13_laysTwo_5 : decode cX13_laysTwo 5 = .ok (.iconst 0, 1) := by decide +kernel
theorem dX13_laysTwo_6 : decode cX13_laysTwo 6 = .ok (.putfield 320, 3) := by decide +kernel
theorem dX13_laysTwo_9 : decode cX13_laysTwo 9 = .ok (.aload_n 0, 1) := by decide +kernel
theorem dX13_laysTwo_10 : decode cX13_laysTwo 10 = .ok (.iconst 0, 1) := by decide +kernel
theorem dX13_laysTwo_11 : decode cX13_laysTwo 11 = .ok (.putfield 323, 3) := by decide +kernel
theorem dX13_laysTwo_14 : decode cX13_laysTwo 14 = .ok (.aload_n 0, 1) := by decide +kernel
theorem dX13_laysTwo_15 : decode cX13_laysTwo 15 = .ok (.aload_n 0, 1) := by decide +kernel
theorem dX13_laysTwo_16 : decode cX13_laysTwo 16 = .ok (.iconst 0, 1) := by decide +kernel
theorem dX13_laysTwo_17 : decode cX13_laysTwo 17 = .ok (.iconst 0, 1) := by decide +kernel
theorem dX13_laysTwo_18 : decode cX13_laysTwo 18 = .ok (.aload_n 0, 1) := by decide +kernel
theorem dX13_laysTwo_19 : decode cX13_laysTwo 19 = .ok (.getfield 15, 3) := by decide +kernel
theorem dX13_laysTwo_22 : decode cX13_laysTwo 22 = .ok (.sipush 3203, 3) := by decide +kernel
theorem dX13_laysTwo_25 : decode cX13_laysTwo 25 = .ok (.iaload, 1) := by decide +kernel
theorem dX13_laysTwo_26 : decode cX13_laysTwo 26 = .ok (.aload_n 0, 1) := by decide +kernel
theorem dX13_laysTwo_27 : decode cX13_laysTwo 27 = .ok (.getfield 15, 3) := by decide +kernel
theorem dX13_laysTwo_30 : decode cX13_laysTwo 30 = .ok (.sipush 3204, 3) := by decide +kernel
theorem dX13_laysTwo_33 : decode cX13_laysTwo 33 = .ok (.iaload, 1) := by decide +kernel
theorem dX13_laysTwo_34 : decode cX13_laysTwo 34 = .ok (.invokevirtual 303, 3) := by decide +kernel
theorem dX13_laysTwo_37 : decode cX13_laysTwo 37 = .ok (.putfield 326, 3) := by decide +kernel
theorem dX13_laysTwo_40 : decode cX13_laysTwo 40 = .ok (.iconst 0, 1) := by decide +kernel
theorem dX13_laysTwo_41 : decode cX13_laysTwo 41 = .ok (.istore_n 1, 1) := by decide +kernel
theorem dX13_laysTwo_42 : decode cX13_laysTwo 42 = .ok (.iload_n 1, 1) := by decide +kernel
theorem dX13_laysTwo_43 : decode cX13_laysTwo 43 = .ok (.sipush 1000, 3) := by decide +kernel
theorem dX13_laysTwo_46 : decode cX13_laysTwo 46 = .ok (.if_icmp .gt 71, 3) := by decide +kernel
theorem dX13_laysTwo_49 : decode cX13_laysTwo 49 = .ok (.iload_n 1, 1) := by decide +kernel
theorem dX13_laysTwo_50 : decode cX13_laysTwo 50 = .ok (.istore_n 2, 1) := by decide +kernel
theorem dX13_laysTwo_51 : decode cX13_laysTwo 51 = .ok (.iload_n 2, 1) := by decide +kernel
theorem dX13_laysTwo_52 : decode cX13_laysTwo 52 = .ok (.sipush 1000, 3) := by decide +kernel
theorem dX13_laysTwo_55 : decode cX13_laysTwo 55 = .ok (.if_icmp .gt 56, 3) := by decide +kernel
theorem dX13_laysTwo_58 : decode cX13_laysTwo 58 = .ok (.aload_n 0, 1) := by decide +kernel
theorem dX13_laysTwo_59 : decode cX13_laysTwo 59 = .ok (.iload_n 1, 1) := by decide +kernel
theorem dX13_laysTwo_60 : decode cX13_laysTwo 60 = .ok (.iload_n 2, 1) := by decide +kernel
theorem dX13_laysTwo_61 : decode cX13_laysTwo 61 = .ok (.aload_n 0, 1) := by decide +kernel
theorem dX13_laysTwo_62 : decode cX13_laysTwo 62 = .ok (.getfield 15, 3) := by decide +kernel
theorem dX13_laysTwo_65 : decode cX13_laysTwo 65 = .ok (.sipush 3203, 3) := by decide +kernel
theorem dX13_laysTwo_68 : decode cX13_laysTwo 68 = .ok (.iaload, 1) := by decide +kernel
theorem dX13_laysTwo_69 : decode cX13_laysTwo 69 = .ok (.aload_n 0, 1) := by decide +kernel
theorem dX13_laysTwo_70 : decode cX13_laysTwo 70 = .ok (.getfield 15, 3) := by decide +kernel
theorem dX13_laysTwo_73 : decode cX13_laysTwo 73 = .ok (.sipush 3204, 3) := by decide +kernel
theorem dX13_laysTwo_76 : decode cX13_laysTwo 76 = .ok (.iaload, 1) := by decide +kernel
theorem dX13_laysTwo_77 : decode cX13_laysTwo 77 = .ok (.invokevirtual 303, 3) := by decide +kernel
theorem dX13_laysTwo_80 : decode cX13_laysTwo 80 = .ok (.lstore_n 3, 1) := by decide +kernel
theorem dX13_laysTwo_81 : decode cX13_laysTwo 81 = .ok (.lload_n 3, 1) := by decide +kernel
theorem dX13_laysTwo_82 : decode cX13_laysTwo 82 = .ok (.aload_n 0, 1) := by decide +kernel
theorem dX13_laysTwo_83 : decode cX13_laysTwo 83 = .ok (.getfield 326, 3) := by decide +kernel
theorem dX13_laysTwo_86 : decode cX13_laysTwo 86 = .ok (.lcmp, 1) := by decide +kernel
theorem dX13_laysTwo_87 : decode cX13_laysTwo 87 = .ok (.ifCond .ge 18, 3) := by decide +kernel
theorem dX13_laysTwo_90 : decode cX13_laysTwo 90 = .ok (.aload_n 0, 1) := by decide +kernel
theorem dX13_laysTwo_91 : decode cX13_laysTwo 91 = .ok (.lload_n 3, 1) := by decide +kernel
theorem dX13_laysTwo_92 : decode cX13_laysTwo 92 = .ok (.putfield 326, 3) := by decide +kernel
theorem dX13_laysTwo_95 : decode cX13_laysTwo 95 = .ok (.aload_n 0, 1) := by decide +kernel
theorem dX13_laysTwo_96 : decode cX13_laysTwo 96 = .ok (.iload_n 1, 1) := by decide +kernel
theorem dX13_laysTwo_97 : decode cX13_laysTwo 97 = .ok (.putfield 320, 3) := by decide +kernel
theorem dX13_laysTwo_100 : decode cX13_laysTwo 100 = .ok (.aload_n 0, 1) := by decide +kernel
theorem dX13_laysTwo_101 : decode cX13_laysTwo 101 = .ok (.iload_n 2, 1) := by decide +kernel
theorem dX13_laysTwo_102 : decode cX13_laysTwo 102 = .ok (.putfield 323, 3) := by decide +kernel
theorem dX13_laysTwo_105 : decode cX13_laysTwo 105 = .ok (.iinc 2 1, 3) := by decide +kernel
theorem dX13_laysTwo_108 : decode cX13_laysTwo 108 = .ok (.goto (-57), 3) := by decide +kernel
theorem dX13_laysTwo_111 : decode cX13_laysTwo 111 = .ok (.iinc 1 1, 3) := by decide +kernel
theorem dX13_laysTwo_114 : decode cX13_laysTwo 114 = .ok (.goto (-72), 3) := by decide +kernel
theorem dX13_laysTwo_117 : decode cX13_laysTwo 117 = .ok (.return_, 1) := by decide +kernel
theorem dX13_two_0 : decode cX13_two 0 = .ok (.iload_n 1, 1) := by decide +kernel
theorem dX13_two_1 : decode cX13_two 1 = .ok (.i2l, 1) := by decide +kernel
theorem dX13_two_2 : decode cX13_two 2 = .ok (.lconst 0, 1) := by decide +kernel
theorem dX13_two_3 : decode cX13_two 3 = .ok (.ldc2_w 291, 3) := by decide +kernel
theorem dX13_two_6 : decode cX13_two 6 = .ok (.invokestatic 86, 3) := by decide +kernel
theorem dX13_two_9 : decode cX13_two 9 = .ok (.ifCond .ne 6, 3) := by decide +kernel
theorem dX13_two_12 : decode cX13_two 12 = .ok (.bipush (-2), 2) := by decide +kernel
theorem dX13_two_14 : decode cX13_two 14 = .ok (.ireturn, 1) := by decide +kernel
theorem dX13_two_15 : decode cX13_two 15 = .ok (.aload_n 0, 1) := by decide +kernel
theorem dX13_two_16 : decode cX13_two 16 = .ok (.invokevirtual 330, 3) := by decide +kernel
theorem dX13_two_19 : decode cX13_two 19 = .ok (.iload_n 1, 1) := by decide +kernel
theorem dX13_two_20 : decode cX13_two 20 = .ok (.ifCond .ne 10, 3) := by decide +kernel
theorem dX13_two_23 : decode cX13_two 23 = .ok (.aload_n 0, 1) := by decide +kernel
theorem dX13_two_24 : decode cX13_two 24 = .ok (.getfield 320, 3) := by decide +kernel
theorem dX13_two_27 : decode cX13_two 27 = .ok (.goto 20, 3) := by decide +kernel
theorem dX13_two_30 : decode cX13_two 30 = .ok (.iload_n 1, 1) := by decide +kernel
theorem dX13_two_31 : decode cX13_two 31 = .ok (.iconst 1, 1) := by decide +kernel
theorem dX13_two_32 : decode cX13_two 32 = .ok (.if_icmp .ne 10, 3) := by decide +kernel
theorem dX13_two_35 : decode cX13_two 35 = .ok (.aload_n 0, 1) := by decide +kernel
theorem dX13_two_36 : decode cX13_two 36 = .ok (.getfield 323, 3) := by decide +kernel
