theorem dX4_join_154 : decode cX4_join 154 = .ok (.getfield 21, 3) := by decide +kernel
theorem dX4_join_157 : decode cX4_join 157 = .ok (.iload_n 1, 1) := by decide +kernel
theorem dX4_join_158 : decode cX4_join 158 = .ok (.iconst 2, 1) := by decide +kernel
theorem dX4_join_159 : decode cX4_join 159 = .ok (.iadd, 1) := by decide +kernel
theorem dX4_join_160 : decode cX4_join 160 = .ok (.aload_n 0, 1) := by decide +kernel
theorem dX4_join_161 : decode cX4_join 161 = .ok (.getfield 21, 3) := by decide +kernel
theorem dX4_join_164 : decode cX4_join 164 = .ok (.iload_n 1, 1) := by decide +kernel
theorem dX4_join_165 : decode cX4_join 165 = .ok (.iconst 1, 1) := by decide +kernel
theorem dX4_join_166 : decode cX4_join 166 = .ok (.iadd, 1) := by decide +kernel
theorem dX4_join_167 : decode cX4_join 167 = .ok (.iload_n 2, 1) := by decide +kernel
theorem dX4_join_168 : decode cX4_join 168 = .ok (.invokestatic 47, 3) := by decide +kernel
theorem dX4_join_171 : decode cX4_join 171 = .ok (.aload_n 0, 1) := by decide +kernel
theorem dX4_join_172 : decode cX4_join 172 = .ok (.getfield 24, 3) := by decide +kernel
theorem dX4_join_175 : decode cX4_join 175 = .ok (.iload_n 1, 1) := by decide +kernel
theorem dX4_join_176 : decode cX4_join 176 = .ok (.iconst 2, 1) := by decide +kernel
theorem dX4_join_177 : decode cX4_join 177 = .ok (.iadd, 1) := by decide +kernel
theorem dX4_join_178 : decode cX4_join 178 = .ok (.aload_n 0, 1) := by decide +kernel
theorem dX4_join_179 : decode cX4_join 179 = .ok (.getfield 24, 3) := by decide +kernel
theorem dX4_join_182 : decode cX4_join 182 = .ok (.iload_n 1, 1) := by decide +kernel
theorem dX4_join_183 : decode cX4_join 183 = .ok (.iconst 1, 1) := by decide +kernel
theorem dX4_join_184 : decode cX4_join 184 = .ok (.iadd, 1) := by decide +kernel
theorem dX4_join_185 : decode cX4_join 185 = .ok (.iload_n 2, 1) := by decide +kernel
theorem dX4_join_186 : decode cX4_join 186 = .ok (.invokestatic 47, 3) := by decide +kernel
theorem dX4_join_189 : decode cX4_join 189 = .ok (.return_, 1) := by decide +kernel
theorem dX4_smallest_0 : decode cX4_smallest 0 = .ok (.iconst 0, 1) := by decide +kernel
theorem dX4_smallest_1 : decode cX4_smallest 1 = .ok (.istore_n 1, 1) := by decide +kernel
theorem dX4_smallest_2 : decode cX4_smallest 2 = .ok (.iconst 1, 1) := by decide +kernel
theorem dX4_smallest_3 : decode cX4_smallest 3 = .ok (.istore_n 2, 1) := by decide +kernel
theorem dX4_smallest_4 : decode cX4_smallest 4 = .ok (.iload_n 2, 1) := by decide +kernel
theorem dX4_smallest_5 : decode cX4_smallest 5 = .ok (.aload_n 0, 1) := by decide +kernel
theorem dX4_smallest_6 : decode cX4_smallest 6 = .ok (.getfield 27, 3) := by decide +kernel
theorem dX4_smallest_9 : decode cX4_smallest 9 = .ok (.if_icmp .ge 24, 3) := by decide +kernel
theorem dX4_smallest_12 : decode cX4_smallest 12 = .ok (.aload_n 0, 1) := by decide +kernel
theorem dX4_smallest_13 : decode cX4_smallest 13 = .ok (.iload_n 2, 1) := by decide +kernel
theorem dX4_smallest_14 : decode cX4_smallest 14 = .ok (.invokevirtual 57, 3) := by decide +kernel
theorem dX4_smallest_17 : decode cX4_smallest 17 = .ok (.aload_n 0, 1) := by decide +kernel
theorem dX4_smallest_18 : decode cX4_smallest 18 = .ok (.iload_n 1, 1) := by decide +kernel
theorem dX4_smallest_19 : decode cX4_smallest 19 = .ok (.invokevirtual 57, 3) := by decide +kernel
theorem dX4_smallest_22 : decode cX4_smallest 22 = .ok (.if_icmp .ge 5, 3) := by decide +kernel
theorem dX4_smallest_25 : decode cX4_smallest 25 = .ok (.iload_n 2, 1) := by decide +kernel
theorem dX4_smallest_26 : decode cX4_smallest 26 = .ok (.istore_n 1, 1) := by decide +kernel
theorem dX4_smallest_27 : decode cX4_smallest 27 = .ok (.iinc 2 1, 3) := by decide +kernel
theorem dX4_smallest_30 : decode cX4_smallest 30 = .ok (.goto (-26), 3) := by decide +kernel
theorem dX4_smallest_33 : decode cX4_smallest 33 = .ok (.iload_n 1, 1) := by decide +kernel
theorem dX4_smallest_34 : decode cX4_smallest 34 = .ok (.ireturn, 1) := by decide +kernel
theorem dX4_isLowerNearer_0 : decode cX4_isLowerNearer 0 = .ok (.iload_n 1, 1) := by decide +kernel
theorem dX4_isLowerNearer_1 : decode cX4_isLowerNearer 1 = .ok (.ifCond .ne 5, 3) := by decide +kernel
theorem dX4_isLowerNearer_4 : decode cX4_isLowerNearer 4 = .ok (.iconst 0, 1) := by decide +kernel
theorem dX4_isLowerNearer_5 : decode cX4_isLowerNearer 5 = .ok (.ireturn, 1) := by decide +kernel
theorem dX4_isLowerNearer_6 : decode cX4_isLowerNearer 6 = .ok (.iload_n 1, 1) := by decide +kernel
theorem dX4_isLowerNearer_7 : decode cX4_isLowerNearer 7 = .ok (.aload_n 0, 1) := by decide +kernel
theorem dX4_isLowerNearer_8 : decode cX4_isLowerNearer 8 = .ok (.getfield 27, 3) := by decide +kernel
theorem dX4_isLowerNearer_11 : decode cX4_isLowerNearer 11 = .ok (.iconst 1, 1) := by decide +kernel
theorem dX4_isLowerNearer_12 : decode cX4_isLowerNearer 12 = .ok (.isub, 1) := by decide +kernel
theorem dX4_isLowerNearer_13 : decode cX4_isLowerNearer 13 = .ok (.if_icmp .ne 5, 3) := by decide +kernel
theorem dX4_isLowerNearer_16 : decode cX4_isLowerNearer 16 = .ok (.iconst 1, 1) := by decide +kernel
theorem dX4_isLowerNearer_17 : decode cX4_isLowerNearer 17 = .ok (.ireturn, 1) := by decide +kernel
theorem dX4_isLowerNearer_18 : decode cX4_isLowerNearer 18 = .ok (.aload_n 0, 1) := by decide +kernel
theorem dX4_isLowerNearer_19 : decode cX4_isLowerNearer 19 = .ok (.iload_n 1, 1) := by decide +kernel
theorem dX4_isLowerNearer_20 : decode cX4_isLowerNearer 20 = .ok (.iconst 1, 1) := by decide +kernel
theorem dX4_isLowerNearer_21 : decode cX4_isLowerNearer 21 = .ok (.isub, 1) := by decide +kernel
theorem dX4_isLowerNearer_22 : decode cX4_isLowerNearer 22 = .ok (.invokevirtual 80, 3) := by decide +kernel
theorem dX4_isLowerNearer_25 : decode cX4_isLowerNearer 25 = .ok (.aload_n 0, 1) := by decide +kernel
theorem dX4_isLowerNearer_26 : decode cX4_isLowerNearer 26 = .ok (.iload_n 1, 1) := by decide +kernel
theorem dX4_isLowerNearer_27 : decode cX4_isLowerNearer 27 = .ok (.iconst 1, 1) := by decide +kernel
theorem dX4_isLowerNearer_28 : decode cX4_isLowerNearer 28 = .ok (.iadd, 1) := by decide +kernel
theorem dX4_isLowerNearer_29 : decode cX4_isLowerNearer 29 = .ok (.invokevirtual 57, 3) := by decide +kernel
theorem dX4_isLowerNearer_32 : decode cX4_isLowerNearer 32 = .ok (.i2l, 1) := by decide +kernel
theorem dX4_isLowerNearer_33 : decode cX4_isLowerNearer 33 = .ok (.lmul, 1) := by decide +kernel
theorem dX4_isLowerNearer_34 : decode cX4_isLowerNearer 34 = .ok (.aload_n 0, 1) := by decide +kernel
theorem dX4_isLowerNearer_35 : decode cX4_isLowerNearer 35 = .ok (.iload_n 1, 1) := by decide +kernel
theorem dX4_isLowerNearer_36 : decode cX4_isLowerNearer 36 = .ok (.invokevirtual 80, 3) := by decide +kernel
theorem dX4_isLowerNearer_39 : decode cX4_isLowerNearer 39 = .ok (.aload_n 0, 1) := by decide +kernel
theorem dX4_isLowerNearer_40 : decode cX4_isLowerNearer 40 = .ok (.iload_n 1, 1) := by decide +kernel
theorem dX4_isLowerNearer_41 : decode cX4_isLowerNearer 41 = .ok (.iconst 1, 1) := by decide +kernel
theorem dX4_isLowerNearer_42 : decode cX4_isLowerNearer 42 = .ok (.isub, 1) := by decide +kernel
theorem dX4_isLowerNearer_43 : decode cX4_isLowerNearer 43 = .ok (.invokevirtual 57, 3) := by decide +kernel
theorem dX4_isLowerNearer_46 : decode cX4_isLowerNearer 46 = .ok (.i2l, 1) := by decide +kernel
theorem dX4_isLowerNearer_47 : decode cX4_isLowerNearer 47 = .ok (.lmul, 1) := by decide +kernel
theorem dX4_isLowerNearer_48 : decode cX4_isLowerNearer 48 = .ok (.lcmp, 1) := by decide +kernel
theorem dX4_isLowerNearer_49 : decode cX4_isLowerNearer 49 = .ok (.ifCond .gt 7, 3) := by decide +kernel
theorem dX4_isLowerNearer_52 : decode cX4_isLowerNearer 52 = .ok (.iconst 1, 1) := by decide +kernel
theorem dX4_isLowerNearer_53 : decode cX4_isLowerNearer 53 = .ok (.goto 4, 3) := by decide +kernel
theorem dX4_isLowerNearer_56 : decode cX4_isLowerNearer 56 = .ok (.iconst 0, 1) := by decide +kernel
theorem dX4_isLowerNearer_57 : decode cX4_isLowerNearer 57 = .ok (.ireturn, 1) := by decide +kernel
theorem dX4_rise_0 : decode cX4_rise 0 = .ok (.aload_n 0, 1) := by decide +kernel
theorem dX4_rise_1 : decode cX4_rise 1 = .ok (.getfield 21, 3) := by decide +kernel
theorem dX4_rise_4 : decode cX4_rise 4 = .ok (.iload_n 1, 1) := by decide +kernel
theorem dX4_rise_5 : decode cX4_rise 5 = .ok (.iaload, 1) := by decide +kernel
theorem dX4_rise_6 : decode cX4_rise 6 = .ok (.i2l, 1) := by decide +kernel
theorem dX4_rise_7 : decode cX4_rise 7 = .ok (.aload_n 0, 1) := by decide +kernel
theorem dX4_rise_8 : decode cX4_rise 8 = .ok (.iload_n 1, 1) := by decide +kernel
theorem dX4_rise_9 : decode cX4_rise 9 = .ok (.iconst 1, 1) := by decide +kernel
theorem dX4_rise_10 : decode cX4_rise 10 = .ok (.iadd, 1) := by decide +kernel
theorem dX4_rise_11 : decode cX4_rise 11 = .ok (.invokevirtual 57, 3) := by decide +kernel
theorem dX4_rise_14 : decode cX4_rise 14 = .ok (.i2l, 1) := by decide +kernel
theorem dX4_rise_15 : decode cX4_rise 15 = .ok (.lmul, 1) := by decide +kernel
theorem dX4_rise_16 : decode cX4_rise 16 = .ok (.aload_n 0, 1) := by decide +kernel
theorem dX4_rise_17 : decode cX4_rise 17 = .ok (.getfield 21, 3) := by decide +kernel
theorem dX4_rise_20 : decode cX4_rise 20 = .ok (.iload_n 1, 1) := by decide +kernel
theorem dX4_rise_21 : decode cX4_rise 21 = .ok (.iconst 1, 1) := by decide +kernel
theorem dX4_rise_22 : decode cX4_rise 22 = .ok (.iadd, 1) := by decide +kernel
theorem dX4_rise_23 : decode cX4_rise 23 = .ok (.iaload, 1) := by decide +kernel
theorem dX4_rise_24 : decode cX4_rise 24 = .ok (.i2l, 1) := by decide +kernel
theorem dX4_rise_25 : decode cX4_rise 25 = .ok (.aload_n 0, 1) := by decide +kernel
theorem dX4_rise_26 : decode cX4_rise 26 = .ok (.iload_n 1, 1) := by decide +kernel
theorem dX4_rise_27 : decode cX4_rise 27 = .ok (.invokevirtual 57, 3) := by decide +kernel
theorem dX4_rise_30 : decode cX4_rise 30 = .ok (.i2l, 1) := by decide +kernel
theorem dX4_rise_31 : decode cX4_rise 31 = .ok (.lmul, 1) := by decide +kernel
theorem dX4_rise_32 : decode cX4_rise 32 = .ok (.lsub, 1) := by decide +kernel
theorem dX4_rise_33 : decode cX4_rise 33 = .ok (.invokestatic 83, 3) := by decide +kernel
theorem dX4_rise_36 : decode cX4_rise 36 = .ok (.lreturn, 1) := by decide +kernel
theorem dX4_growthAbove_0 : decode cX4_growthAbove 0 = .ok (.aload_n 0, 1) := by decide +kernel
theorem dX4_growthAbove_1 : decode cX4_growthAbove 1 = .ok (.iload_n 1, 1) := by decide +kernel
theorem dX4_growthAbove_2 : decode cX4_growthAbove 2 = .ok (.invokevirtual 80, 3) := by decide +kernel
theorem dX4_growthAbove_5 : decode cX4_growthAbove 5 = .ok (.aload_n 0, 1) := by decide +kernel
theorem dX4_growthAbove_6 : decode cX4_growthAbove 6 = .ok (.iload_n 1, 1) := by decide +kernel
theorem dX4_growthAbove_7 : decode cX4_growthAbove 7 = .ok (.invokevirtual 80, 3) := by decide +kernel
theorem dX4_growthAbove_10 : decode cX4_growthAbove 10 = .ok (.lmul, 1) := by decide +kernel
theorem dX4_growthAbove_11 : decode cX4_growthAbove 11 = .ok (.lreturn, 1) := by decide +kernel
theorem dX4_growthBelow_0 : decode cX4_growthBelow 0 = .ok (.aload_n 0, 1) := by decide +kernel
theorem dX4_growthBelow_1 : decode cX4_growthBelow 1 = .ok (.iload_n 1, 1) := by decide +kernel
theorem dX4_growthBelow_2 : decode cX4_growthBelow 2 = .ok (.invokevirtual 57, 3) := by decide +kernel
theorem dX4_growthBelow_5 : decode cX4_growthBelow 5 = .ok (.i2l, 1) := by decide +kernel
theorem dX4_growthBelow_6 : decode cX4_growthBelow 6 = .ok (.aload_n 0, 1) := by decide +kernel
theorem dX4_growthBelow_7 : decode cX4_growthBelow 7 = .ok (.iload_n 1, 1) := by decide +kernel
theorem dX4_growthBelow_8 : decode cX4_growthBelow 8 = .ok (.iconst 1, 1) := by decide +kernel
theorem dX4_growthBelow_9 : decode cX4_growthBelow 9 = .ok (.iadd, 1) := by decide +kernel
theorem dX4_growthBelow_10 : decode cX4_growthBelow 10 = .ok (.invokevirtual 57, 3) := by decide +kernel
theorem dX4_growthBelow_13 : decode cX4_growthBelow 13 = .ok (.i2l, 1) := by decide +kernel
theorem dX4_growthBelow_14 : decode cX4_growthBelow 14 = .ok (.lmul, 1) := by decide +kernel
theorem dX4_growthBelow_15 : decode cX4_growthBelow 15 = .ok (.aload_n 0, 1) := by decide +kernel
theorem dX4_growthBelow_16 : decode cX4_growthBelow 16 = .ok (.iload_n 1, 1) := by decide +kernel
theorem dX4_growthBelow_17 : decode cX4_growthBelow 17 = .ok (.invokevirtual 57, 3) := by decide +kernel
theorem dX4_growthBelow_20 : decode cX4_growthBelow 20 = .ok (.aload_n 0, 1) := by decide +kernel
theorem dX4_growthBelow_21 : decode cX4_growthBelow 21 = .ok (.iload_n 1, 1) := by decide +kernel
theorem dX4_growthBelow_22 : decode cX4_growthBelow 22 = .ok (.iconst 1, 1) := by decide +kernel
theorem dX4_growthBelow_23 : decode cX4_growthBelow 23 = .ok (.iadd, 1) := by decide +kernel
theorem dX4_growthBelow_24 : decode cX4_growthBelow 24 = .ok (.invokevirtual 57, 3) := by decide +kernel
theorem dX4_growthBelow_27 : decode cX4_growthBelow 27 = .ok (.iadd, 1) := by decide +kernel
theorem dX4_growthBelow_28 : decode cX4_growthBelow 28 = .ok (.i2l, 1) := by decide +kernel
theorem dX4_growthBelow_29 : decode cX4_growthBelow 29 = .ok (.lmul, 1) := by decide +kernel
theorem dX4_growthBelow_30 : decode cX4_growthBelow 30 = .ok (.lreturn, 1) := by decide +kernel
theorem dX4_place_0 : decode cX4_place 0 = .ok (.aload_n 0, 1) := by decide +kernel
theorem dX4_place_1 : decode cX4_place 1 = .ok (.getfield 27, 3) := by decide +kernel
theorem dX4_place_4 : decode cX4_place 4 = .ok (.ifCond .ne 5, 3) := by decide +kernel
theorem dX4_place_7 : decode cX4_place 7 = .ok (.iconst (-1), 1) := by decide +kernel
theorem dX4_place_8 : decode cX4_place 8 = .ok (.ireturn, 1) := by decide +kernel
theorem dX4_place_9 : decode cX4_place 9 = .ok (.aload_n 0, 1) := by decide +kernel
theorem dX4_place_10 : decode cX4_place 10 = .ok (.getfield 27, 3) := by decide +kernel
theorem dX4_place_13 : decode cX4_place 13 = .ok (.iconst 1, 1) := by decide +kernel
theorem dX4_place_14 : decode cX4_place 14 = .ok (.isub, 1) := by decide +kernel
theorem dX4_place_15 : decode cX4_place 15 = .ok (.istore_n 2, 1) := by decide +kernel
theorem dX4_place_16 : decode cX4_place 16 = .ok (.iload_n 2, 1) := by decide +kernel
theorem dX4_place_17 : decode cX4_place 17 = .ok (.ifCond .le 19, 3) := by decide +kernel
theorem dX4_place_20 : decode cX4_place 20 = .ok (.aload_n 0, 1) := by decide +kernel
theorem dX4_place_21 : decode cX4_place 21 = .ok (.getfield 9, 3) := by decide +kernel
theorem dX4_place_24 : decode cX4_place 24 = .ok (.iload_n 2, 1) := by decide +kernel
theorem dX4_place_25 : decode cX4_place 25 = .ok (.iaload, 1) := by decide +kernel
theorem dX4_place_26 : decode cX4_place 26 = .ok (.iload_n 1, 1) := by decide +kernel
theorem dX4_place_27 : decode cX4_place 27 = .ok (.if_icmp .le 9, 3) := by decide +kernel
theorem dX4_place_30 : decode cX4_place 30 = .ok (.iinc 2 (-1), 3) := by decide +kernel
theorem dX4_place_33 : decode cX4_place 33 = .ok (.goto (-17), 3) := by decide +kernel
theorem dX4_place_36 : decode cX4_place 36 = .ok (.iload_n 2, 1) := by decide +kernel
theorem dX4_place_37 : decode cX4_place 37 = .ok (.ireturn, 1) := by decide +kernel
theorem dX4_goodBelow_0 : decode cX4_goodBelow 0 = .ok (.iconst 0, 1) := by decide +kernel
theorem dX4_goodBelow_1 : decode cX4_goodBelow 1 = .ok (.istore_n 2, 1) := by decide +kernel
theorem dX4_goodBelow_2 : decode cX4_goodBelow 2 = .ok (.iconst 0, 1) := by decide +kernel
theorem dX4_goodBelow_3 : decode cX4_goodBelow 3 = .ok (.istore_n 3, 1) := by decide +kernel
theorem dX4_goodBelow_4 : decode cX4_goodBelow 4 = .ok (.iload_n 3, 1) := by decide +kernel
theorem dX4_goodBelow_5 : decode cX4_goodBelow 5 = .ok (.iload_n 1, 1) := by decide +kernel
theorem dX4_goodBelow_6 : decode cX4_goodBelow 6 = .ok (.if_icmp .ge 26, 3) := by decide +kernel
theorem dX4_goodBelow_9 : decode cX4_goodBelow 9 = .ok (.iload_n 3, 1) := by decide +kernel
theorem dX4_goodBelow_10 : decode cX4_goodBelow 10 = .ok (.aload_n 0, 1) := by decide +kernel
theorem dX4_goodBelow_11 : decode cX4_goodBelow 11 = .ok (.getfield 27, 3) := by decide +kernel
theorem dX4_goodBelow_14 : decode cX4_goodBelow 14 = .ok (.if_icmp .ge 18, 3) := by decide +kernel
theorem dX4_goodBelow_17 : decode cX4_goodBelow 17 = .ok (.iload_n 2, 1) := by decide +kernel
theorem dX4_goodBelow_18 : decode cX4_goodBelow 18 = .ok (.aload_n 0, 1) := by decide +kernel
theorem dX4_goodBelow_19 : decode cX4_goodBelow 19 = .ok (.getfield 18, 3) := by decide +kernel
theorem dX4_goodBelow_22 : decode cX4_goodBelow 22 = .ok (.iload_n 3, 1) := by decide +kernel
theorem dX4_goodBelow_23 : decode cX4_goodBelow 23 = .ok (.iaload, 1) := by decide +kernel
theorem dX4_goodBelow_24 : decode cX4_goodBelow 24 = .ok (.iadd, 1) := by decide +kernel
theorem dX4_goodBelow_25 : decode cX4_goodBelow 25 = .ok (.istore_n 2, 1) := by decide +kernel
theorem dX4_goodBelow_26 : decode cX4_goodBelow 26 = .ok (.iinc 3 1, 3) := by decide +kernel
theorem dX4_goodBelow_29 : decode cX4_goodBelow 29 = .ok (.goto (-25), 3) := by decide +kernel
theorem dX4_goodBelow_32 : decode cX4_goodBelow 32 = .ok (.iload_n 2, 1) := by decide +kernel
theorem dX4_goodBelow_33 : decode cX4_goodBelow 33 = .ok (.ireturn, 1) := by decide +kernel
theorem dX4_badBelow_0 : decode cX4_badBelow 0 = .ok (.iconst 0, 1) := by decide +kernel
theorem dX4_badBelow_1 : decode cX4_badBelow 1 = .ok (.istore_n 2, 1) := by decide +kernel
theorem dX4_badBelow_2 : decode cX4_badBelow 2 = .ok (.iconst 0, 1) := by decide +kernel
theorem dX4_badBelow_3 : decode cX4_badBelow 3 = .ok (.istore_n 3, 1) := by decide +kernel
theorem dX4_badBelow_4 : decode cX4_badBelow 4 = .ok (.iload_n 3, 1) := by decide +kernel
theorem dX4_badBelow_5 : decode cX4_badBelow 5 = .ok (.iload_n 1, 1) := by decide +kernel
theorem dX4_badBelow_6 : decode cX4_badBelow 6 = .ok (.if_icmp .ge 26, 3) := by decide +kernel
theorem dX4_badBelow_9 : decode cX4_badBelow 9 = .ok (.iload_n 3, 1) := by decide +kernel
theorem dX4_badBelow_10 : decode cX4_badBelow 10 = .ok (.aload_n 0, 1) := by decide +kernel
theorem dX4_badBelow_11 : decode cX4_badBelow 11 = .ok (.getfield 27, 3) := by decide +kernel
theorem dX4_badBelow_14 : decode cX4_badBelow 14 = .ok (.if_icmp .ge 18, 3) := by decide +kernel
theorem dX4_badBelow_17 : decode cX4_badBelow 17 = .ok (.iload_n 2, 1) := by decide +kernel
theorem dX4_badBelow_18 : decode cX4_badBelow 18 = .ok (.aload_n 0, 1) := by decide +kernel
theorem dX4_badBelow_19 : decode cX4_badBelow 19 = .ok (.getfield 21, 3) := by decide +kernel
theorem dX4_badBelow_22 : decode cX4_badBelow 22 = .ok (.iload_n 3, 1) := by decide +kernel
theorem dX4_badBelow_23 : decode cX4_badBelow 23 = .ok (.iaload, 1) := by decide +kernel
theorem dX4_badBelow_24 : decode cX4_badBelow 24 = .ok (.iadd, 1) := by decide +kernel
theorem dX4_badBelow_25 : decode cX4_badBelow 25 = .ok (.istore_n 2, 1) := by decide +kernel
theorem dX4_badBelow_26 : decode cX4_badBelow 26 = .ok (.iinc 3 1, 3) := by decide +kernel
theorem dX4_badBelow_29 : decode cX4_badBelow 29 = .ok (.goto (-25), 3) := by decide +kernel
theorem dX4_badBelow_32 : decode cX4_badBelow 32 = .ok (.iload_n 2, 1) := by decide +kernel
theorem dX4_badBelow_33 : decode cX4_badBelow 33 = .ok (.ireturn, 1) := by decide +kernel
theorem dX4_badWith_0 : decode cX4_badWith 0 = .ok (.iload_n 1, 1) := by decide +kernel
theorem dX4_badWith_1 : decode cX4_badWith 1 = .ok (.istore_n 3, 1) := by decide +kernel
theorem dX4_badWith_2 : decode cX4_badWith 2 = .ok (.lconst 0, 1) := by decide +kernel
theorem dX4_badWith_3 : decode cX4_badWith 3 = .ok (.lstore 4, 2) := by decide +kernel
theorem dX4_badWith_5 : decode cX4_badWith 5 = .ok (.aload_n 0, 1) := by decide +kernel
theorem dX4_badWith_6 : decode cX4_badWith 6 = .ok (.getfield 27, 3) := by decide +kernel
theorem dX4_badWith_9 : decode cX4_badWith 9 = .ok (.iconst 1, 1) := by decide +kernel
theorem dX4_badWith_10 : decode cX4_badWith 10 = .ok (.isub, 1) := by decide +kernel
theorem dX4_badWith_11 : decode cX4_badWith 11 = .ok (.istore 6, 2) := by decide +kernel
theorem dX4_badWith_13 : decode cX4_badWith 13 = .ok (.iload 6, 2) := by decide +kernel
theorem dX4_badWith_15 : decode cX4_badWith 15 = .ok (.ifCond .lt 83, 3) := by decide +kernel
theorem dX4_badWith_18 : decode cX4_badWith 18 = .ok (.iload_n 3, 1) := by decide +kernel
theorem dX4_badWith_19 : decode cX4_badWith 19 = .ok (.ifCond .le 79, 3) := by decide +kernel
theorem dX4_badWith_22 : decode cX4_badWith 22 = .ok (.iload_n 3, 1) := by decide +kernel
theorem dX4_badWith_23 : decode cX4_badWith 23 = .ok (.aload_n 0, 1) := by decide +kernel
theorem dX4_badWith_24 : decode cX4_badWith 24 = .ok (.getfield 18, 3) := by decide +kernel
theorem dX4_badWith_27 : decode cX4_badWith 27 = .ok (.iload 6, 2) := by decide +kernel
theorem dX4_badWith_29 : decode cX4_badWith 29 = .ok (.iaload, 1) := by decide +kernel
theorem dX4_badWith_30 : decode cX4_badWith 30 = .ok (.if_icmp .gt 39, 3) := by decide +kernel
theorem dX4_badWith_33 : decode cX4_badWith 33 = .ok (.lload 4, 2) := by decide +kernel
theorem dX4_badWith_35 : decode cX4_badWith 35 = .ok (.aload_n 0, 1) := by decide +kernel
theorem dX4_badWith_36 : decode cX4_badWith 36 = .ok (.getfield 18, 3) := by decide +kernel
theorem dX4_badWith_39 : decode cX4_badWith 39 = .ok (.iload 6, 2) := by decide +kernel
theorem dX4_badWith_41 : decode cX4_badWith 41 = .ok (.iaload, 1) := by decide +kernel
theorem dX4_badWith_42 : decode cX4_badWith 42 = .ok (.i2l, 1) := by decide +kernel
theorem dX4_badWith_43 : decode cX4_badWith 43 = .ok (.lmul, 1) := by decide +kernel
theorem dX4_badWith_44 : decode cX4_badWith 44 = .ok (.iload_n 3, 1) := by decide +kernel
theorem dX4_badWith_45 : decode cX4_badWith 45 = .ok (.i2l, 1) := by decide +kernel
theorem dX4_badWith_46 : decode cX4_badWith 46 = .ok (.aload_n 0, 1) := by decide +kernel
theorem dX4_badWith_47 : decode cX4_badWith 47 = .ok (.getfield 21, 3) := by decide +kernel
theorem dX4_badWith_50 : decode cX4_badWith 50 = .ok (.iload 6, 2) := by decide +kernel
theorem dX4_badWith_52 : decode cX4_badWith 52 = .ok (.iaload, 1) := by decide +kernel
theorem dX4_badWith_53 : decode cX4_badWith 53 = .ok (.i2l, 1) := by decide +kernel
theorem dX4_badWith_54 : decode cX4_badWith 54 = .ok (.lmul, 1) := by decide +kernel
theorem dX4_badWith_55 : decode cX4_badWith 55 = .ok (.ladd, 1) := by decide +kernel
theorem dX4_badWith_56 : decode cX4_badWith 56 = .ok (.aload_n 0, 1) := by decide +kernel
theorem dX4_badWith_57 : decode cX4_badWith 57 = .ok (.getfield 18, 3) := by decide +kernel
theorem dX4_badWith_60 : decode cX4_badWith 60 = .ok (.iload 6, 2) := by decide +kernel
theorem dX4_badWith_62 : decode cX4_badWith 62 = .ok (.iaload, 1) := by decide +kernel
theorem dX4_badWith_63 : decode cX4_badWith 63 = .ok (.i2l, 1) := by decide +kernel
theorem dX4_badWith_64 : decode cX4_badWith 64 = .ok (.iload_n 2, 1) := by decide +kernel
theorem dX4_badWith_65 : decode cX4_badWith 65 = .ok (.invokestatic 89, 3) := by decide +kernel
theorem dX4_badWith_68 : decode cX4_badWith 68 = .ok (.lreturn, 1) := by decide +kernel
theorem dX4_badWith_69 : decode cX4_badWith 69 = .ok (.iload_n 3, 1) := by decide +kernel
theorem dX4_badWith_70 : decode cX4_badWith 70 = .ok (.aload_n 0, 1) := by decide +kernel
theorem dX4_badWith_71 : decode cX4_badWith 71 = .ok (.getfield 18, 3) := by decide +kernel
theorem dX4_badWith_74 : decode cX4_badWith 74 = .ok (.iload 6, 2) := by decide +kernel
theorem dX4_badWith_76 : decode cX4_badWith 76 = .ok (.iaload, 1) := by decide +kernel
theorem dX4_badWith_77 : decode cX4_badWith 77 = .ok (.isub, 1) := by decide +kernel
theorem dX4_badWith_78 : decode cX4_badWith 78 = .ok (.istore_n 3, 1) := by decide +kernel
theorem dX4_badWith_79 : decode cX4_badWith 79 = .ok (.lload 4, 2) := by decide +kernel
theorem dX4_badWith_81 : decode cX4_badWith 81 = .ok (.aload_n 0, 1) := by decide +kernel
theorem dX4_badWith_82 : decode cX4_badWith 82 = .ok (.getfield 21, 3) := by decide +kernel
theorem dX4_badWith_85 : decode cX4_badWith 85 = .ok (.iload 6, 2) := by decide +kernel
theorem dX4_badWith_87 : decode cX4_badWith 87 = .ok (.iaload, 1) := by decide +kernel
theorem dX4_badWith_88 : decode cX4_badWith 88 = .ok (.i2l, 1) := by decide +kernel
theorem dX4_badWith_89 : decode cX4_badWith 89 = .ok (.ladd, 1) := by decide +kernel
theorem dX4_badWith_90 : decode cX4_badWith 90 = .ok (.lstore 4, 2) := by decide +kernel
theorem dX4_badWith_92 : decode cX4_badWith 92 = .ok (.iinc 6 (-1), 3) := by decide +kernel
theorem dX4_badWith_95 : decode cX4_badWith 95 = .ok (.goto (-82), 3) := by decide +kernel
theorem dX4_badWith_98 : decode cX4_badWith 98 = .ok (.lload 4, 2) := by decide +kernel
theorem dX4_badWith_100 : decode cX4_badWith 100 = .ok (.lconst 1, 1) := by decide +kernel
theorem dX4_badWith_101 : decode cX4_badWith 101 = .ok (.iload_n 2, 1) := by decide +kernel
theorem dX4_badWith_102 : decode cX4_badWith 102 = .ok (.invokestatic 89, 3) := by decide +kernel
theorem dX4_badWith_105 : decode cX4_badWith 105 = .ok (.lreturn, 1) := by decide +kernel
theorem dX5_quotient_0 : decode cX5_quotient 0 = .ok (.lload_n 2, 1) := by decide +kernel
theorem dX5_quotient_1 : decode cX5_quotient 1 = .ok (.lconst 0, 1) := by decide +kernel
theorem dX5_quotient_2 : decode cX5_quotient 2 = .ok (.lcmp, 1) := by decide +kernel
theorem dX5_quotient_3 : decode cX5_quotient 3 = .ok (.ifCond .ne 7, 3) := by decide +kernel
theorem dX5_quotient_6 : decode cX5_quotient 6 = .ok (.dconst 0, 1) := by decide +kernel
theorem dX5_quotient_7 : decode cX5_quotient 7 = .ok (.goto 8, 3) := by decide +kernel
theorem dX5_quotient_10 : decode cX5_quotient 10 = .ok (.lload_n 0, 1) := by decide +kernel
theorem dX5_quotient_11 : decode cX5_quotient 11 = .ok (.l2d, 1) := by decide +kernel
theorem dX5_quotient_12 : decode cX5_quotient 12 = .ok (.lload_n 2, 1) := by decide +kernel
theorem dX5_quotient_13 : decode cX5_quotient 13 = .ok (.l2d, 1) := by decide +kernel
theorem dX5_quotient_14 : decode cX5_quotient 14 = .ok (.ddiv, 1) := by decide +kernel
theorem dX5_quotient_15 : decode cX5_quotient 15 = .ok (.dreturn, 1) := by decide +kernel
theorem dX5_lowest_0 : decode cX5_lowest 0 = .ok (.lload_n 0, 1) := by decide +kernel
theorem dX5_lowest_1 : decode cX5_lowest 1 = .ok (.lstore 5, 2) := by decide +kernel
theorem dX5_lowest_3 : decode cX5_lowest 3 = .ok (.lload_n 2, 1) := by decide +kernel
theorem dX5_lowest_4 : decode cX5_lowest 4 = .ok (.lstore 7, 2) := by decide +kernel
theorem dX5_lowest_6 : decode cX5_lowest 6 = .ok (.iconst 0, 1) := by decide +kernel
theorem dX5_lowest_7 : decode cX5_lowest 7 = .ok (.istore 9, 2) := by decide +kernel
theorem dX5_lowest_9 : decode cX5_lowest 9 = .ok (.iload 9, 2) := by decide +kernel
theorem dX5_lowest_11 : decode cX5_lowest 11 = .ok (.bipush 100, 2) := by decide +kernel
theorem dX5_lowest_13 : decode cX5_lowest 13 = .ok (.if_icmp .ge 31, 3) := by decide +kernel
theorem dX5_lowest_16 : decode cX5_lowest 16 = .ok (.lload 7, 2) := by decide +kernel
theorem dX5_lowest_18 : decode cX5_lowest 18 = .ok (.lconst 0, 1) := by decide +kernel
theorem dX5_lowest_19 : decode cX5_lowest 19 = .ok (.lcmp, 1) := by decide +kernel
theorem dX5_lowest_20 : decode cX5_lowest 20 = .ok (.ifCond .eq 24, 3) := by decide +kernel
theorem dX5_lowest_23 : decode cX5_lowest 23 = .ok (.lload 5, 2) := by decide +kernel
theorem dX5_lowest_25 : decode cX5_lowest 25 = .ok (.lload 7, 2) := by decide +kernel
theorem dX5_lowest_27 : decode cX5_lowest 27 = .ok (.lrem, 1) := by decide +kernel
theorem dX5_lowest_28 : decode cX5_lowest 28 = .ok (.lstore 10, 2) := by decide +kernel
theorem dX5_lowest_30 : decode cX5_lowest 30 = .ok (.lload 7, 2) := by decide +kernel
theorem dX5_lowest_32 : decode cX5_lowest 32 = .ok (.lstore 5, 2) := by decide +kernel
theorem dX5_lowest_34 : decode cX5_lowest 34 = .ok (.lload 10, 2) := by decide +kernel
theorem dX5_lowest_36 : decode cX5_lowest 36 = .ok (.lstore 7, 2) := by decide +kernel
theorem dX5_lowest_38 : decode cX5_lowest 38 = .ok (.iinc 9 1, 3) := by decide +kernel
theorem dX5_lowest_41 : decode cX5_lowest 41 = .ok (.goto (-32), 3) := by decide +kernel
theorem dX5_lowest_44 : decode cX5_lowest 44 = .ok (.iload 4, 2) := by decide +kernel
theorem dX5_lowest_46 : decode cX5_lowest 46 = .ok (.ifCond .ne 7, 3) := by decide +kernel
theorem dX5_lowest_49 : decode cX5_lowest 49 = .ok (.lload_n 0, 1) := by decide +kernel
theorem dX5_lowest_50 : decode cX5_lowest 50 = .ok (.goto 4, 3) := by decide +kernel
theorem dX5_lowest_53 : decode cX5_lowest 53 = .ok (.lload_n 2, 1) := by decide +kernel
theorem dX5_lowest_54 : decode cX5_lowest 54 = .ok (.lstore 9, 2) := by decide +kernel
theorem dX5_lowest_56 : decode cX5_lowest 56 = .ok (.lload 5, 2) := by decide +kernel
theorem dX5_lowest_58 : decode cX5_lowest 58 = .ok (.lconst 0, 1) := by decide +kernel
theorem dX5_lowest_59 : decode cX5_lowest 59 = .ok (.lcmp, 1) := by decide +kernel
theorem dX5_lowest_60 : decode cX5_lowest 60 = .ok (.ifCond .ne 8, 3) := by decide +kernel
theorem dX5_lowest_63 : decode cX5_lowest 63 = .ok (.lload 9, 2) := by decide +kernel
theorem dX5_lowest_65 : decode cX5_lowest 65 = .ok (.goto 8, 3) := by decide +kernel
theorem dX5_lowest_68 : decode cX5_lowest 68 = .ok (.lload 9, 2) := by decide +kernel
theorem dX5_lowest_70 : decode cX5_lowest 70 = .ok (.lload 5, 2) := by decide +kernel
theorem dX5_lowest_72 : decode cX5_lowest 72 = .ok (.ldiv, 1) := by decide +kernel
theorem dX5_lowest_73 : decode cX5_lowest 73 = .ok (.lreturn, 1) := by decide +kernel
theorem dX5_isLess_0 : decode cX5_isLess 0 = .ok (.lload_n 0, 1) := by decide +kernel
theorem dX5_isLess_1 : decode cX5_isLess 1 = .ok (.lstore 8, 2) := by decide +kernel
theorem dX5_isLess_3 : decode cX5_isLess 3 = .ok (.lload_n 2, 1) := by decide +kernel
theorem dX5_isLess_4 : decode cX5_isLess 4 = .ok (.lstore 10, 2) := by decide +kernel
theorem dX5_isLess_6 : decode cX5_isLess 6 = .ok (.lload 4, 2) := by decide +kernel
theorem dX5_isLess_8 : decode cX5_isLess 8 = .ok (.lstore 12, 2) := by decide +kernel
theorem dX5_isLess_10 : decode cX5_isLess 10 = .ok (.lload 6, 2) := by decide +kernel
theorem dX5_isLess_12 : decode cX5_isLess 12 = .ok (.lstore 14, 2) := by decide +kernel
theorem dX5_isLess_14 : decode cX5_isLess 14 = .ok (.iconst 0, 1) := by decide +kernel
theorem dX5_isLess_15 : decode cX5_isLess 15 = .ok (.istore 16, 2) := by decide +kernel
theorem dX5_isLess_17 : decode cX5_isLess 17 = .ok (.iconst 0, 1) := by decide +kernel
theorem dX5_isLess_18 : decode cX5_isLess 18 = .ok (.istore 17, 2) := by decide +kernel
theorem dX5_isLess_20 : decode cX5_isLess 20 = .ok (.iload 17, 2) := by decide +kernel
theorem dX5_isLess_22 : decode cX5_isLess 22 = .ok (.bipush 100, 2) := by decide +kernel
theorem dX5_isLess_24 : decode cX5_isLess 24 = .ok (.if_icmp .ge 128, 3) := by decide +kernel
theorem dX5_isLess_27 : decode cX5_isLess 27 = .ok (.lload 10, 2) := by decide +kernel
theorem dX5_isLess_29 : decode cX5_isLess 29 = .ok (.lconst 0, 1) := by decide +kernel
theorem dX5_isLess_30 : decode cX5_isLess 30 = .ok (.lcmp, 1) := by decide +kernel
theorem dX5_isLess_31 : decode cX5_isLess 31 = .ok (.ifCond .eq 121, 3) := by decide +kernel
theorem dX5_isLess_34 : decode cX5_isLess 34 = .ok (.lload 14, 2) := by decide +kernel
theorem dX5_isLess_36 : decode cX5_isLess 36 = .ok (.lconst 0, 1) := by decide +kernel
theorem dX5_isLess_37 : decode cX5_isLess 37 = .ok (.lcmp, 1) := by decide +kernel
theorem dX5_isLess_38 : decode cX5_isLess 38 = .ok (.ifCond .eq 114, 3) := by decide +kernel
theorem dX5_isLess_41 : decode cX5_isLess 41 = .ok (.lload 8, 2) := by decide +kernel
theorem dX5_isLess_43 : decode cX5_isLess 43 = .ok (.lload 10, 2) := by decide +kernel
theorem dX5_isLess_45 : decode cX5_isLess 45 = .ok (.ldiv, 1) := by decide +kernel
theorem dX5_isLess_46 : decode cX5_isLess 46 = .ok (.lstore 18, 2) := by decide +kernel
theorem dX5_isLess_48 : decode cX5_isLess 48 = .ok (.lload 12, 2) := by decide +kernel
theorem dX5_isLess_50 : decode cX5_isLess 50 = .ok (.lload 14, 2) := by decide +kernel
theorem dX5_isLess_52 : decode cX5_isLess 52 = .ok (.ldiv, 1) := by decide +kernel
theorem dX5_isLess_53 : decode cX5_isLess 53 = .ok (.lstore 20, 2) := by decide +kernel
theorem dX5_isLess_55 : decode cX5_isLess 55 = .ok (.lload 18, 2) := by decide +kernel
theorem dX5_isLess_57 : decode cX5_isLess 57 = .ok (.lload 20, 2) := by decide +kernel
theorem dX5_isLess_59 : decode cX5_isLess 59 = .ok (.lcmp, 1) := by decide +kernel
theorem dX5_isLess_60 : decode cX5_isLess 60 = .ok (.ifCond .eq 38, 3) := by decide +kernel
theorem dX5_isLess_63 : decode cX5_isLess 63 = .ok (.iload 16, 2) := by decide +kernel
theorem dX5_isLess_65 : decode cX5_isLess 65 = .ok (.ifCond .eq 19, 3) := by decide +kernel
theorem dX5_isLess_68 : decode cX5_isLess 68 = .ok (.lload 18, 2) := by decide +kernel
theorem dX5_isLess_70 : decode cX5_isLess 70 = .ok (.lload 20, 2) := by decide +kernel
theorem dX5_isLess_72 : decode cX5_isLess 72 = .ok (.lcmp, 1) := by decide +kernel
theorem dX5_isLess_73 : decode cX5_isLess 73 = .ok (.ifCond .le 7, 3) := by decide +kernel
theorem dX5_isLess_76 : decode cX5_isLess 76 = .ok (.iconst 1, 1) := by decide +kernel
theorem dX5_isLess_77 : decode cX5_isLess 77 = .ok (.goto 20, 3) := by decide +kernel
theorem dX5_isLess_80 : decode cX5_isLess 80 = .ok (.iconst 0, 1) := by decide +kernel
theorem dX5_isLess_81 : decode cX5_isLess 81 = .ok (.goto 16, 3) := by decide +kernel
theorem dX5_isLess_84 : decode cX5_isLess 84 = .ok (.lload 18, 2) := by decide +kernel
theorem dX5_isLess_86 : decode cX5_isLess 86 = .ok (.lload 20, 2) := by decide +kernel
theorem dX5_isLess_88 : decode cX5_isLess 88 = .ok (.lcmp, 1) := by decide +kernel
theorem dX5_isLess_89 : decode cX5_isLess 89 = .ok (.ifCond .ge 7, 3) := by decide +kernel
theorem dX5_isLess_92 : decode cX5_isLess 92 = .ok (.iconst 1, 1) := by decide +kernel
theorem dX5_isLess_93 : decode cX5_isLess 93 = .ok (.goto 4, 3) := by decide +kernel
theorem dX5_isLess_96 : decode cX5_isLess 96 = .ok (.iconst 0, 1) := by decide +kernel
theorem dX5_isLess_97 : decode cX5_isLess 97 = .ok (.ireturn, 1) := by decide +kernel
theorem dX5_isLess_98 : decode cX5_isLess 98 = .ok (.lload 8, 2) := by decide +kernel
theorem dX5_isLess_100 : decode cX5_isLess 100 = .ok (.lload 18, 2) := by decide +kernel
theorem dX5_isLess_102 : decode cX5_isLess 102 = .ok (.lload 10, 2) := by decide +kernel
theorem dX5_isLess_104 : decode cX5_isLess 104 = .ok (.lmul, 1) := by decide +kernel
theorem dX5_isLess_105 : decode cX5_isLess 105 = .ok (.lsub, 1) := by decide +kernel
theorem dX5_isLess_106 : decode cX5_isLess 106 = .ok (.lstore 22, 2) := by decide +kernel
theorem dX5_isLess_108 : decode cX5_isLess 108 = .ok (.lload 12, 2) := by decide +kernel
theorem dX5_isLess_110 : decode cX5_isLess 110 = .ok (.lload 20, 2) := by decide +kernel
theorem dX5_isLess_112 : decode cX5_isLess 112 = .ok (.lload 14, 2) := by decide +kernel
theorem dX5_isLess_114 : decode cX5_isLess 114 = .ok (.lmul, 1) := by decide +kernel
theorem dX5_isLess_115 : decode cX5_isLess 115 = .ok (.lsub, 1) := by decide +kernel
theorem dX5_isLess_116 : decode cX5_isLess 116 = .ok (.lstore 24, 2) := by decide +kernel
theorem dX5_isLess_118 : decode cX5_isLess 118 = .ok (.lload 10, 2) := by decide +kernel
theorem dX5_isLess_120 : decode cX5_isLess 120 = .ok (.lstore 8, 2) := by decide +kernel
theorem dX5_isLess_122 : decode cX5_isLess 122 = .ok (.lload 22, 2) := by decide +kernel
theorem dX5_isLess_124 : decode cX5_isLess 124 = .ok (.lstore 10, 2) := by decide +kernel
theorem dX5_isLess_126 : decode cX5_isLess 126 = .ok (.lload 14, 2) := by decide +kernel
theorem dX5_isLess_128 : decode cX5_isLess 128 = .ok (.lstore 12, 2) := by decide +kernel
theorem dX5_isLess_130 : decode cX5_isLess 130 = .ok (.lload 24, 2) := by decide +kernel
theorem dX5_isLess_132 : decode cX5_isLess 132 = .ok (.lstore 14, 2) := by decide +kernel
theorem dX5_isLess_134 : decode cX5_isLess 134 = .ok (.iload 16, 2) := by decide +kernel
theorem dX5_isLess_136 : decode cX5_isLess 136 = .ok (.ifCond .ne 7, 3) := by decide +kernel
theorem dX5_isLess_139 : decode cX5_isLess 139 = .ok (.iconst 1, 1) := by decide +kernel
theorem dX5_isLess_140 : decode cX5_isLess 140 = .ok (.goto 4, 3) := by decide +kernel
theorem dX5_isLess_143 : decode cX5_isLess 143 = .ok (.iconst 0, 1) := by decide +kernel
theorem dX5_isLess_144 : decode cX5_isLess 144 = .ok (.istore 16, 2) := by decide +kernel
theorem dX5_isLess_146 : decode cX5_isLess 146 = .ok (.iinc 17 1, 3) := by decide +kernel
theorem dX5_isLess_149 : decode cX5_isLess 149 = .ok (.goto (-129), 3) := by decide +kernel
theorem dX5_isLess_152 : decode cX5_isLess 152 = .ok (.lload 14, 2) := by decide +kernel
theorem dX5_isLess_154 : decode cX5_isLess 154 = .ok (.lconst 0, 1) := by decide +kernel
theorem dX5_isLess_155 : decode cX5_isLess 155 = .ok (.lcmp, 1) := by decide +kernel
theorem dX5_isLess_156 : decode cX5_isLess 156 = .ok (.ifCond .ne 14, 3) := by decide +kernel
theorem dX5_isLess_159 : decode cX5_isLess 159 = .ok (.lload 10, 2) := by decide +kernel
theorem dX5_isLess_161 : decode cX5_isLess 161 = .ok (.lconst 0, 1) := by decide +kernel
theorem dX5_isLess_162 : decode cX5_isLess 162 = .ok (.lcmp, 1) := by decide +kernel
theorem dX5_isLess_163 : decode cX5_isLess 163 = .ok (.ifCond .eq 7, 3) := by decide +kernel
theorem dX5_isLess_166 : decode cX5_isLess 166 = .ok (.iconst 1, 1) := by decide +kernel
theorem dX5_isLess_167 : decode cX5_isLess 167 = .ok (.goto 4, 3) := by decide +kernel
theorem dX5_isLess_170 : decode cX5_isLess 170 = .ok (.iconst 0, 1) := by decide +kernel
theorem dX5_isLess_171 : decode cX5_isLess 171 = .ok (.istore 17, 2) := by decide +kernel
theorem dX5_isLess_173 : decode cX5_isLess 173 = .ok (.lload 10, 2) := by decide +kernel
theorem dX5_isLess_175 : decode cX5_isLess 175 = .ok (.lconst 0, 1) := by decide +kernel
theorem dX5_isLess_176 : decode cX5_isLess 176 = .ok (.lcmp, 1) := by decide +kernel
theorem dX5_isLess_177 : decode cX5_isLess 177 = .ok (.ifCond .ne 14, 3) := by decide +kernel
theorem dX5_isLess_180 : decode cX5_isLess 180 = .ok (.lload 14, 2) := by decide +kernel
theorem dX5_isLess_182 : decode cX5_isLess 182 = .ok (.lconst 0, 1) := by decide +kernel
theorem dX5_isLess_183 : decode cX5_isLess 183 = .ok (.lcmp, 1) := by decide +kernel
theorem dX5_isLess_184 : decode cX5_isLess 184 = .ok (.ifCond .eq 7, 3) := by decide +kernel
theorem dX5_isLess_187 : decode cX5_isLess 187 = .ok (.iconst 1, 1) := by decide +kernel
theorem dX5_isLess_188 : decode cX5_isLess 188 = .ok (.goto 4, 3) := by decide +kernel
theorem dX5_isLess_191 : decode cX5_isLess 191 = .ok (.iconst 0, 1) := by decide +kernel
theorem dX5_isLess_192 : decode cX5_isLess 192 = .ok (.istore 18, 2) := by decide +kernel
theorem dX5_isLess_194 : decode cX5_isLess 194 = .ok (.iload 16, 2) := by decide +kernel
theorem dX5_isLess_196 : decode cX5_isLess 196 = .ok (.ifCond .eq 8, 3) := by decide +kernel
theorem dX5_isLess_199 : decode cX5_isLess 199 = .ok (.iload 18, 2) := by decide +kernel
theorem dX5_isLess_201 : decode cX5_isLess 201 = .ok (.goto 5, 3) := by decide +kernel
theorem dX5_isLess_204 : decode cX5_isLess 204 = .ok (.iload 17, 2) := by decide +kernel
theorem dX5_isLess_206 : decode cX5_isLess 206 = .ok (.ireturn, 1) := by decide +kernel
theorem dX5_doubleBits_0 : decode cX5_doubleBits 0 = .ok (.dload_n 0, 1) := by decide +kernel
theorem dX5_doubleBits_1 : decode cX5_doubleBits 1 = .ok (.dconst 0, 1) := by decide +kernel
theorem dX5_doubleBits_2 : decode cX5_doubleBits 2 = .ok (.dcmp .l, 1) := by decide +kernel
theorem dX5_doubleBits_3 : decode cX5_doubleBits 3 = .ok (.ifCond .gt 5, 3) := by decide +kernel
theorem dX5_doubleBits_6 : decode cX5_doubleBits 6 = .ok (.lconst 0, 1) := by decide +kernel
theorem dX5_doubleBits_7 : decode cX5_doubleBits 7 = .ok (.lreturn, 1) := by decide +kernel
theorem dX5_doubleBits_8 : decode cX5_doubleBits 8 = .ok (.dload_n 0, 1) := by decide +kernel
theorem dX5_doubleBits_9 : decode cX5_doubleBits 9 = .ok (.dstore_n 2, 1) := by decide +kernel
theorem dX5_doubleBits_10 : decode cX5_doubleBits 10 = .ok (.ldc2_w 7, 3) := by decide +kernel
theorem dX5_doubleBits_13 : decode cX5_doubleBits 13 = .ok (.lstore 4, 2) := by decide +kernel
theorem dX5_doubleBits_15 : decode cX5_doubleBits 15 = .ok (.iconst 0, 1) := by decide +kernel
theorem dX5_doubleBits_16 : decode cX5_doubleBits 16 = .ok (.istore 6, 2) := by decide +kernel
theorem dX5_doubleBits_18 : decode cX5_doubleBits 18 = .ok (.iload 6, 2) := by decide +kernel
theorem dX5_doubleBits_20 : decode cX5_doubleBits 20 = .ok (.sipush 1023, 3) := by decide +kernel
theorem dX5_doubleBits_23 : decode cX5_doubleBits 23 = .ok (.if_icmp .ge 29, 3) := by decide +kernel
theorem dX5_doubleBits_26 : decode cX5_doubleBits 26 = .ok (.dload_n 2, 1) := by decide +kernel
theorem dX5_doubleBits_27 : decode cX5_doubleBits 27 = .ok (.ldc2_w 9, 3) := by decide +kernel
theorem dX5_doubleBits_30 : decode cX5_doubleBits 30 = .ok (.dcmp .l, 1) := by decide +kernel
theorem dX5_doubleBits_31 : decode cX5_doubleBits 31 = .ok (.ifCond .lt 21, 3) := by decide +kernel
theorem dX5_doubleBits_34 : decode cX5_doubleBits 34 = .ok (.dload_n 2, 1) := by decide +kernel
theorem dX5_doubleBits_35 : decode cX5_doubleBits 35 = .ok (.ldc2_w 9, 3) := by decide +kernel
theorem dX5_doubleBits_38 : decode cX5_doubleBits 38 = .ok (.ddiv, 1) := by decide +kernel
theorem dX5_doubleBits_39 : decode cX5_doubleBits 39 = .ok (.dstore_n 2, 1) := by decide +kernel
theorem dX5_doubleBits_40 : decode cX5_doubleBits 40 = .ok (.lload 4, 2) := by decide +kernel
theorem dX5_doubleBits_42 : decode cX5_doubleBits 42 = .ok (.lconst 1, 1) := by decide +kernel
theorem dX5_doubleBits_43 : decode cX5_doubleBits 43 = .ok (.ladd, 1) := by decide +kernel
theorem dX5_doubleBits_44 : decode cX5_doubleBits 44 = .ok (.lstore 4, 2) := by decide +kernel
theorem dX5_doubleBits_46 : decode cX5_doubleBits 46 = .ok (.iinc 6 1, 3) := by decide +kernel
theorem dX5_doubleBits_49 : decode cX5_doubleBits 49 = .ok (.goto (-31), 3) := by decide +kernel
theorem dX5_doubleBits_52 : decode cX5_doubleBits 52 = .ok (.iconst 0, 1) := by decide +kernel
theorem dX5_doubleBits_53 : decode cX5_doubleBits 53 = .ok (.istore 6, 2) := by decide +kernel
theorem dX5_doubleBits_55 : decode cX5_doubleBits 55 = .ok (.iload 6, 2) := by decide +kernel
theorem dX5_doubleBits_57 : decode cX5_doubleBits 57 = .ok (.sipush 1022, 3) := by decide +kernel
theorem dX5_doubleBits_60 : decode cX5_doubleBits 60 = .ok (.if_icmp .ge 27, 3) := by decide +kernel
theorem dX5_doubleBits_63 : decode cX5_doubleBits 63 = .ok (.dload_n 2, 1) := by decide +kernel
theorem dX5_doubleBits_64 : decode cX5_doubleBits 64 = .ok (.dconst 1, 1) := by decide +kernel
theorem dX5_doubleBits_65 : decode cX5_doubleBits 65 = .ok (.dcmp .g, 1) := by decide +kernel
theorem dX5_doubleBits_66 : decode cX5_doubleBits 66 = .ok (.ifCond .ge 21, 3) := by decide +kernel
theorem dX5_doubleBits_69 : decode cX5_doubleBits 69 = .ok (.dload_n 2, 1) := by decide +kernel
theorem dX5_doubleBits_70 : decode cX5_doubleBits 70 = .ok (.ldc2_w 9, 3) := by decide +kernel
theorem dX5_doubleBits_73 : decode cX5_doubleBits 73 = .ok (.dmul, 1) := by decide +kernel
theorem dX5_doubleBits_74 : decode cX5_doubleBits 74 = .ok (.dstore_n 2, 1) := by decide +kernel
theorem dX5_doubleBits_75 : decode cX5_doubleBits 75 = .ok (.lload 4, 2) := by decide +kernel
theorem dX5_doubleBits_77 : decode cX5_doubleBits 77 = .ok (.lconst 1, 1) := by decide +kernel
theorem dX5_doubleBits_78 : decode cX5_doubleBits 78 = .ok (.lsub, 1) := by decide +kernel
theorem dX5_doubleBits_79 : decode cX5_doubleBits 79 = .ok (.lstore 4, 2) := by decide +kernel
theorem dX5_doubleBits_81 : decode cX5_doubleBits 81 = .ok (.iinc 6 1, 3) := by decide +kernel
theorem dX5_doubleBits_84 : decode cX5_doubleBits 84 = .ok (.goto (-29), 3) := by decide +kernel
theorem dX5_doubleBits_87 : decode cX5_doubleBits 87 = .ok (.lload 4, 2) := by decide +kernel
theorem dX5_doubleBits_89 : decode cX5_doubleBits 89 = .ok (.bipush 52, 2) := by decide +kernel
theorem dX5_doubleBits_91 : decode cX5_doubleBits 91 = .ok (.lshl, 1) := by decide +kernel
theorem dX5_doubleBits_92 : decode cX5_doubleBits 92 = .ok (.dload_n 2, 1) := by decide +kernel
theorem dX5_doubleBits_93 : decode cX5_doubleBits 93 = .ok (.dconst 1, 1) := by decide +kernel
theorem dX5_doubleBits_94 : decode cX5_doubleBits 94 = .ok (.dsub, 1) := by decide +kernel
theorem dX5_doubleBits_95 : decode cX5_doubleBits 95 = .ok (.ldc2_w 11, 3) := by decide +kernel
theorem dX5_doubleBits_98 : decode cX5_doubleBits 98 = .ok (.dmul, 1) := by decide +kernel
theorem dX5_doubleBits_99 : decode cX5_doubleBits 99 = .ok (.d2l, 1) := by decide +kernel
theorem dX5_doubleBits_100 : decode cX5_doubleBits 100 = .ok (.ladd, 1) := by decide +kernel
theorem dX5_doubleBits_101 : decode cX5_doubleBits 101 = .ok (.lreturn, 1) := by decide +kernel
theorem dX5_floatBits_0 : decode cX5_floatBits 0 = .ok (.fload_n 0, 1) := by decide +kernel
theorem dX5_floatBits_1 : decode cX5_floatBits 1 = .ok (.fconst 0, 1) := by decide +kernel
theorem dX5_floatBits_2 : decode cX5_floatBits 2 = .ok (.fcmp .l, 1) := by decide +kernel
theorem dX5_floatBits_3 : decode cX5_floatBits 3 = .ok (.ifCond .gt 5, 3) := by decide +kernel
theorem dX5_floatBits_6 : decode cX5_floatBits 6 = .ok (.lconst 0, 1) := by decide +kernel
theorem dX5_floatBits_7 : decode cX5_floatBits 7 = .ok (.lreturn, 1) := by decide +kernel
theorem dX5_floatBits_8 : decode cX5_floatBits 8 = .ok (.fload_n 0, 1) := by decide +kernel
theorem dX5_floatBits_9 : decode cX5_floatBits 9 = .ok (.fstore_n 1, 1) := by decide +kernel
theorem dX5_floatBits_10 : decode cX5_floatBits 10 = .ok (.ldc2_w 13, 3) := by decide +kernel
theorem dX5_floatBits_13 : decode cX5_floatBits 13 = .ok (.lstore_n 2, 1) := by decide +kernel
theorem dX5_floatBits_14 : decode cX5_floatBits 14 = .ok (.iconst 0, 1) := by decide +kernel
theorem dX5_floatBits_15 : decode cX5_floatBits 15 = .ok (.istore 4, 2) := by decide +kernel
theorem dX5_floatBits_17 : decode cX5_floatBits 17 = .ok (.iload 4, 2) := by decide +kernel
theorem dX5_floatBits_19 : decode cX5_floatBits 19 = .ok (.bipush 126, 2) := by decide +kernel
theorem dX5_floatBits_21 : decode cX5_floatBits 21 = .ok (.if_icmp .ge 23, 3) := by decide +kernel
theorem dX5_floatBits_24 : decode cX5_floatBits 24 = .ok (.fload_n 1, 1) := by decide +kernel
theorem dX5_floatBits_25 : decode cX5_floatBits 25 = .ok (.fconst 1, 1) := by decide +kernel
theorem dX5_floatBits_26 : decode cX5_floatBits 26 = .ok (.fcmp .g, 1) := by decide +kernel
theorem dX5_floatBits_27 : decode cX5_floatBits 27 = .ok (.ifCond .ge 17, 3) := by decide +kernel
theorem dX5_floatBits_30 : decode cX5_floatBits 30 = .ok (.fload_n 1, 1) := by decide +kernel
theorem dX5_floatBits_31 : decode cX5_floatBits 31 = .ok (.fconst 2, 1) := by decide +kernel
theorem dX5_floatBits_32 : decode cX5_floatBits 32 = .ok (.fmul, 1) := by decide +kernel
theorem dX5_floatBits_33 : decode cX5_floatBits 33 = .ok (.fstore_n 1, 1) := by decide +kernel
theorem dX5_floatBits_34 : decode cX5_floatBits 34 = .ok (.lload_n 2, 1) := by decide +kernel
theorem dX5_floatBits_35 : decode cX5_floatBits 35 = .ok (.lconst 1, 1) := by decide +kernel
theorem dX5_floatBits_36 : decode cX5_floatBits 36 = .ok (.lsub, 1) := by decide +kernel
theorem dX5_floatBits_37 : decode cX5_floatBits 37 = .ok (.lstore_n 2, 1) := by decide +kernel
theorem dX5_floatBits_38 : decode cX5_floatBits 38 = .ok (.iinc 4 1, 3) := by decide +kernel
theorem dX5_floatBits_41 : decode cX5_floatBits 41 = .ok (.goto (-24), 3) := by decide +kernel
theorem dX5_floatBits_44 : decode cX5_floatBits 44 = .ok (.lload_n 2, 1) := by decide +kernel
theorem dX5_floatBits_45 : decode cX5_floatBits 45 = .ok (.bipush 23, 2) := by decide +kernel
theorem dX5_floatBits_47 : decode cX5_floatBits 47 = .ok (.lshl, 1) := by decide +kernel
theorem dX5_floatBits_48 : decode cX5_floatBits 48 = .ok (.fload_n 1, 1) := by decide +kernel
theorem dX5_floatBits_49 : decode cX5_floatBits 49 = .ok (.fconst 1, 1) := by decide +kernel
theorem dX5_floatBits_50 : decode cX5_floatBits 50 = .ok (.fsub, 1) := by decide +kernel
theorem dX5_floatBits_51 : decode cX5_floatBits 51 = .ok (.ldc 15, 2) := by decide +kernel
theorem dX5_floatBits_53 : decode cX5_floatBits 53 = .ok (.fmul, 1) := by decide +kernel
theorem dX5_floatBits_54 : decode cX5_floatBits 54 = .ok (.f2l, 1) := by decide +kernel
theorem dX5_floatBits_55 : decode cX5_floatBits 55 = .ok (.ladd, 1) := by decide +kernel
theorem dX5_floatBits_56 : decode cX5_floatBits 56 = .ok (.lreturn, 1) := by decide +kernel
theorem dX6_init_0 : decode cX6_init 0 = .ok (.aload_n 0, 1) := by decide +kernel
theorem dX6_init_1 : decode cX6_init 1 = .ok (.invokespecial 3, 3) := by decide +kernel
theorem dX6_init_4 : decode cX6_init 4 = .ok (.aload_n 0, 1) := by decide +kernel
theorem dX6_init_5 : decode cX6_init 5 = .ok (.sipush 1000, 3) := by decide +kernel
theorem dX6_init_8 : decode cX6_init 8 = .ok (.newarray .int, 2) := by decide +kernel
theorem dX6_init_10 : decode cX6_init 10 = .ok (.putfield 9, 3) := by decide +kernel
theorem dX6_init_13 : decode cX6_init 13 = .ok (.aload_n 0, 1) := by decide +kernel
theorem dX6_init_14 : decode cX6_init 14 = .ok (.sipush 1000, 3) := by decide +kernel
theorem dX6_init_17 : decode cX6_init 17 = .ok (.newarray .int, 2) := by decide +kernel
theorem dX6_init_19 : decode cX6_init 19 = .ok (.putfield 15, 3) := by decide +kernel
theorem dX6_init_22 : decode cX6_init 22 = .ok (.aload_n 0, 1) := by decide +kernel
theorem dX6_init_23 : decode cX6_init 23 = .ok (.sipush 1000, 3) := by decide +kernel
theorem dX6_init_26 : decode cX6_init 26 = .ok (.newarray .int, 2) := by decide +kernel
theorem dX6_init_28 : decode cX6_init 28 = .ok (.putfield 18, 3) := by decide +kernel
theorem dX6_init_31 : decode cX6_init 31 = .ok (.aload_n 0, 1) := by decide +kernel
theorem dX6_init_32 : decode cX6_init 32 = .ok (.iconst 1, 1) := by decide +kernel
theorem dX6_init_33 : decode cX6_init 33 = .ok (.putfield 21, 3) := by decide +kernel
theorem dX6_init_36 : decode cX6_init 36 = .ok (.aload_n 0, 1) := by decide +kernel
theorem dX6_init_37 : decode cX6_init 37 = .ok (.bipush 60, 2) := by decide +kernel
theorem dX6_init_39 : decode cX6_init 39 = .ok (.putfield 25, 3) := by decide +kernel
theorem dX6_init_42 : decode cX6_init 42 = .ok (.aload_n 0, 1) := by decide +kernel
theorem dX6_init_43 : decode cX6_init 43 = .ok (.iconst 1, 1) := by decide +kernel
theorem dX6_init_44 : decode cX6_init 44 = .ok (.putfield 28, 3) := by decide +kernel
theorem dX6_init_47 : decode cX6_init 47 = .ok (.aload_n 0, 1) := by decide +kernel
theorem dX6_init_48 : decode cX6_init 48 = .ok (.iconst 5, 1) := by decide +kernel
theorem dX6_init_49 : decode cX6_init 49 = .ok (.putfield 31, 3) := by decide +kernel
theorem dX6_init_52 : decode cX6_init 52 = .ok (.aload_n 0, 1) := by decide +kernel
theorem dX6_init_53 : decode cX6_init 53 = .ok (.iconst 1, 1) := by decide +kernel
theorem dX6_init_54 : decode cX6_init 54 = .ok (.putfield 34, 3) := by decide +kernel
theorem dX6_init_57 : decode cX6_init 57 = .ok (.return_, 1) := by decide +kernel
theorem dX6_take_0 : decode cX6_take 0 = .ok (.aload_n 0, 1) := by decide +kernel
theorem dX6_take_1 : decode cX6_take 1 = .ok (.getfield 9, 3) := by decide +kernel
theorem dX6_take_4 : decode cX6_take 4 = .ok (.iconst 0, 1) := by decide +kernel
theorem dX6_take_5 : decode cX6_take 5 = .ok (.invokestatic 37, 3) := by decide +kernel
theorem dX6_take_8 : decode cX6_take 8 = .ok (.aload_n 0, 1) := by decide +kernel
theorem dX6_take_9 : decode cX6_take 9 = .ok (.getfield 15, 3) := by decide +kernel
theorem dX6_take_12 : decode cX6_take 12 = .ok (.iconst 0, 1) := by decide +kernel
theorem dX6_take_13 : decode cX6_take 13 = .ok (.invokestatic 37, 3) := by decide +kernel
theorem dX6_take_16 : decode cX6_take 16 = .ok (.aload_n 0, 1) := by decide +kernel
theorem dX6_take_17 : decode cX6_take 17 = .ok (.getfield 18, 3) := by decide +kernel
theorem dX6_take_20 : decode cX6_take 20 = .ok (.iconst 0, 1) := by decide +kernel
theorem dX6_take_21 : decode cX6_take 21 = .ok (.invokestatic 37, 3) := by decide +kernel
theorem dX6_take_24 : decode cX6_take 24 = .ok (.iconst 0, 1) := by decide +kernel
theorem dX6_take_25 : decode cX6_take 25 = .ok (.istore_n 2, 1) := by decide +kernel
theorem dX6_take_26 : decode cX6_take 26 = .ok (.iload_n 2, 1) := by decide +kernel
theorem dX6_take_27 : decode cX6_take 27 = .ok (.aload_n 1, 1) := by decide +kernel
theorem dX6_take_28 : decode cX6_take 28 = .ok (.getfield 43, 3) := by decide +kernel
theorem dX6_take_31 : decode cX6_take 31 = .ok (.if_icmp .ge 52, 3) := by decide +kernel
theorem dX6_take_34 : decode cX6_take 34 = .ok (.aload_n 1, 1) := by decide +kernel
theorem dX6_take_35 : decode cX6_take 35 = .ok (.getfield 48, 3) := by decide +kernel
theorem dX6_take_38 : decode cX6_take 38 = .ok (.iload_n 2, 1) := by decide +kernel
theorem dX6_take_39 : decode cX6_take 39 = .ok (.iaload, 1) := by decide +kernel
theorem dX6_take_40 : decode cX6_take 40 = .ok (.istore_n 3, 1) := by decide +kernel
theorem dX6_take_41 : decode cX6_take 41 = .ok (.aload_n 0, 1) := by decide +kernel
theorem dX6_take_42 : decode cX6_take 42 = .ok (.getfield 9, 3) := by decide +kernel
theorem dX6_take_45 : decode cX6_take 45 = .ok (.iload_n 3, 1) := by decide +kernel
theorem dX6_take_46 : decode cX6_take 46 = .ok (.aload_n 1, 1) := by decide +kernel
theorem dX6_take_47 : decode cX6_take 47 = .ok (.getfield 51, 3) := by decide +kernel
theorem dX6_take_50 : decode cX6_take 50 = .ok (.iload_n 2, 1) := by decide +kernel
theorem dX6_take_51 : decode cX6_take 51 = .ok (.iaload, 1) := by decide +kernel
theorem dX6_take_52 : decode cX6_take 52 = .ok (.iastore, 1) := by decide +kernel
theorem dX6_take_53 : decode cX6_take 53 = .ok (.aload_n 0, 1) := by decide +kernel
theorem dX6_take_54 : decode cX6_take 54 = .ok (.getfield 15, 3) := by decide +kernel
theorem dX6_take_57 : decode cX6_take 57 = .ok (.iload_n 3, 1) := by decide +kernel
theorem dX6_take_58 : decode cX6_take 58 = .ok (.aload_n 1, 1) := by decide +kernel
theorem dX6_take_59 : decode cX6_take 59 = .ok (.getfield 52, 3) := by decide +kernel
theorem dX6_take_62 : decode cX6_take 62 = .ok (.iload_n 2, 1) := by decide +kernel
theorem dX6_take_63 : decode cX6_take 63 = .ok (.iaload, 1) := by decide +kernel
theorem dX6_take_64 : decode cX6_take 64 = .ok (.iastore, 1) := by decide +kernel
theorem dX6_take_65 : decode cX6_take 65 = .ok (.aload_n 0, 1) := by decide +kernel
theorem dX6_take_66 : decode cX6_take 66 = .ok (.getfield 18, 3) := by decide +kernel
theorem dX6_take_69 : decode cX6_take 69 = .ok (.iload_n 3, 1) := by decide +kernel
theorem dX6_take_70 : decode cX6_take 70 = .ok (.aload_n 1, 1) := by decide +kernel
theorem dX6_take_71 : decode cX6_take 71 = .ok (.getfield 53, 3) := by decide +kernel
theorem dX6_take_74 : decode cX6_take 74 = .ok (.iload_n 2, 1) := by decide +kernel
theorem dX6_take_75 : decode cX6_take 75 = .ok (.iaload, 1) := by decide +kernel
theorem dX6_take_76 : decode cX6_take 76 = .ok (.iastore, 1) := by decide +kernel
theorem dX6_take_77 : decode cX6_take 77 = .ok (.iinc 2 1, 3) := by decide +kernel
theorem dX6_take_80 : decode cX6_take 80 = .ok (.goto (-54), 3) := by decide +kernel
theorem dX6_take_83 : decode cX6_take 83 = .ok (.aload_n 0, 1) := by decide +kernel
theorem dX6_take_84 : decode cX6_take 84 = .ok (.aload_n 1, 1) := by decide +kernel
theorem dX6_take_85 : decode cX6_take 85 = .ok (.getfield 54, 3) := by decide +kernel
theorem dX6_take_88 : decode cX6_take 88 = .ok (.putfield 21, 3) := by decide +kernel
theorem dX6_take_91 : decode cX6_take 91 = .ok (.aload_n 0, 1) := by decide +kernel
theorem dX6_take_92 : decode cX6_take 92 = .ok (.aload_n 1, 1) := by decide +kernel
theorem dX6_take_93 : decode cX6_take 93 = .ok (.getfield 55, 3) := by decide +kernel
theorem dX6_take_96 : decode cX6_take 96 = .ok (.putfield 25, 3) := by decide +kernel
theorem dX6_take_99 : decode cX6_take 99 = .ok (.aload_n 0, 1) := by decide +kernel
theorem dX6_take_100 : decode cX6_take 100 = .ok (.aload_n 1, 1) := by decide +kernel
theorem dX6_take_101 : decode cX6_take 101 = .ok (.getfield 56, 3) := by decide +kernel
theorem dX6_take_104 : decode cX6_take 104 = .ok (.iconst 0, 1) := by decide +kernel
theorem dX6_take_105 : decode cX6_take 105 = .ok (.iaload, 1) := by decide +kernel
theorem dX6_take_106 : decode cX6_take 106 = .ok (.aload_n 1, 1) := by decide +kernel
theorem dX6_take_107 : decode cX6_take 107 = .ok (.getfield 56, 3) := by decide +kernel
theorem dX6_take_110 : decode cX6_take 110 = .ok (.iconst 1, 1) := by decide +kernel
theorem dX6_take_111 : decode cX6_take 111 = .ok (.iaload, 1) := by decide +kernel
theorem dX6_take_112 : decode cX6_take 112 = .ok (.aload_n 1, 1) := by decide +kernel
theorem dX6_take_113 : decode cX6_take 113 = .ok (.getfield 56, 3) := by decide +kernel
theorem dX6_take_116 : decode cX6_take 116 = .ok (.iconst 2, 1) := by decide +kernel
theorem dX6_take_117 : decode cX6_take 117 = .ok (.iaload, 1) := by decide +kernel
theorem dX6_take_118 : decode cX6_take 118 = .ok (.invokevirtual 59, 3) := by decide +kernel
theorem dX6_take_121 : decode cX6_take 121 = .ok (.return_, 1) := by decide +kernel
theorem dX6_setCosts_0 : decode cX6_setCosts 0 = .ok (.aload_n 0, 1) := by decide +kernel
theorem dX6_setCosts_1 : decode cX6_setCosts 1 = .ok (.iload_n 1, 1) := by decide +kernel
theorem dX6_setCosts_2 : decode cX6_setCosts 2 = .ok (.putfield 28, 3) := by decide +kernel
theorem dX6_setCosts_5 : decode cX6_setCosts 5 = .ok (.aload_n 0, 1) := by decide +kernel
theorem dX6_setCosts_6 : decode cX6_setCosts 6 = .ok (.iload_n 2, 1) := by decide +kernel
theorem dX6_setCosts_7 : decode cX6_setCosts 7 = .ok (.putfield 31, 3) := by decide +kernel
theorem dX6_setCosts_10 : decode cX6_setCosts 10 = .ok (.aload_n 0, 1) := by decide +kernel
theorem dX6_setCosts_11 : decode cX6_setCosts 11 = .ok (.iload_n 3, 1) := by decide +kernel
theorem dX6_setCosts_12 : decode cX6_setCosts 12 = .ok (.putfield 34, 3) := by decide +kernel
theorem dX6_setCosts_15 : decode cX6_setCosts 15 = .ok (.return_, 1) := by decide +kernel
theorem dX6_setBound_0 : decode cX6_setBound 0 = .ok (.iload_n 1, 1) := by decide +kernel
theorem dX6_setBound_1 : decode cX6_setBound 1 = .ok (.ifCond .ne 11, 3) := by decide +kernel
theorem dX6_setBound_4 : decode cX6_setBound 4 = .ok (.aload_n 0, 1) := by decide +kernel
theorem dX6_setBound_5 : decode cX6_setBound 5 = .ok (.iload_n 2, 1) := by decide +kernel
theorem dX6_setBound_6 : decode cX6_setBound 6 = .ok (.putfield 21, 3) := by decide +kernel
theorem dX6_setBound_9 : decode cX6_setBound 9 = .ok (.goto 8, 3) := by decide +kernel
theorem dX6_setBound_12 : decode cX6_setBound 12 = .ok (.aload_n 0, 1) := by decide +kernel
theorem dX6_setBound_13 : decode cX6_setBound 13 = .ok (.iload_n 2, 1) := by decide +kernel
theorem dX6_setBound_14 : decode cX6_setBound 14 = .ok (.putfield 25, 3) := by decide +kernel
theorem dX6_setBound_17 : decode cX6_setBound 17 = .ok (.return_, 1) := by decide +kernel
theorem dX6_move_0 : decode cX6_move 0 = .ok (.aload_n 0, 1) := by decide +kernel
theorem dX6_move_1 : decode cX6_move 1 = .ok (.getfield 9, 3) := by decide +kernel
theorem dX6_move_4 : decode cX6_move 4 = .ok (.iload_n 1, 1) := by decide +kernel
theorem dX6_move_5 : decode cX6_move 5 = .ok (.dup2, 1) := by decide +kernel
theorem dX6_move_6 : decode cX6_move 6 = .ok (.iaload, 1) := by decide +kernel
theorem dX6_move_7 : decode cX6_move 7 = .ok (.iload_n 2, 1) := by decide +kernel
theorem dX6_move_8 : decode cX6_move 8 = .ok (.iadd, 1) := by decide +kernel
theorem dX6_move_9 : decode cX6_move 9 = .ok (.iastore, 1) := by decide +kernel
theorem dX6_move_10 : decode cX6_move 10 = .ok (.aload_n 0, 1) := by decide +kernel
theorem dX6_move_11 : decode cX6_move 11 = .ok (.getfield 15, 3) := by decide +kernel
theorem dX6_move_14 : decode cX6_move 14 = .ok (.iload_n 1, 1) := by decide +kernel
theorem dX6_move_15 : decode cX6_move 15 = .ok (.dup2, 1) := by decide +kernel
theorem dX6_move_16 : decode cX6_move 16 = .ok (.iaload, 1) := by decide +kernel
theorem dX6_move_17 : decode cX6_move 17 = .ok (.iload_n 3, 1) := by decide +kernel
theorem dX6_move_18 : decode cX6_move 18 = .ok (.iadd, 1) := by decide +kernel
theorem dX6_move_19 : decode cX6_move 19 = .ok (.iastore, 1) := by decide +kernel
theorem dX6_move_20 : decode cX6_move 20 = .ok (.return_, 1) := by decide +kernel
theorem dX6_opens_0 : decode cX6_opens 0 = .ok (.iconst 0, 1) := by decide +kernel
theorem dX6_opens_1 : decode cX6_opens 1 = .ok (.istore_n 1, 1) := by decide +kernel
theorem dX6_opens_2 : decode cX6_opens 2 = .ok (.iconst 0, 1) := by decide +kernel
theorem dX6_opens_3 : decode cX6_opens 3 = .ok (.istore_n 2, 1) := by decide +kernel
theorem dX6_opens_4 : decode cX6_opens 4 = .ok (.iload_n 2, 1) := by decide +kernel
theorem dX6_opens_5 : decode cX6_opens 5 = .ok (.sipush 1000, 3) := by decide +kernel
theorem dX6_opens_8 : decode cX6_opens 8 = .ok (.if_icmp .ge 18, 3) := by decide +kernel
theorem dX6_opens_11 : decode cX6_opens 11 = .ok (.iload_n 1, 1) := by decide +kernel
theorem dX6_opens_12 : decode cX6_opens 12 = .ok (.aload_n 0, 1) := by decide +kernel
theorem dX6_opens_13 : decode cX6_opens 13 = .ok (.getfield 18, 3) := by decide +kernel
theorem dX6_opens_16 : decode cX6_opens 16 = .ok (.iload_n 2, 1) := by decide +kernel
theorem dX6_opens_17 : decode cX6_opens 17 = .ok (.iaload, 1) := by decide +kernel
theorem dX6_opens_18 : decode cX6_opens 18 = .ok (.iadd, 1) := by decide +kernel
theorem dX6_opens_19 : decode cX6_opens 19 = .ok (.istore_n 1, 1) := by decide +kernel
theorem dX6_opens_20 : decode cX6_opens 20 = .ok (.iinc 2 1, 3) := by decide +kernel
theorem dX6_opens_23 : decode cX6_opens 23 = .ok (.goto (-19), 3) := by decide +kernel
theorem dX6_opens_26 : decode cX6_opens 26 = .ok (.iload_n 1, 1) := by decide +kernel
theorem dX6_opens_27 : decode cX6_opens 27 = .ok (.ireturn, 1) := by decide +kernel
theorem dX6_fits_0 : decode cX6_fits 0 = .ok (.iconst 0, 1) := by decide +kernel
theorem dX6_fits_1 : decode cX6_fits 1 = .ok (.istore_n 1, 1) := by decide +kernel
theorem dX6_fits_2 : decode cX6_fits 2 = .ok (.iconst 0, 1) := by decide +kernel
theorem dX6_fits_3 : decode cX6_fits 3 = .ok (.istore_n 2, 1) := by decide +kernel
theorem dX6_fits_4 : decode cX6_fits 4 = .ok (.iload_n 2, 1) := by decide +kernel
theorem dX6_fits_5 : decode cX6_fits 5 = .ok (.sipush 1000, 3) := by decide +kernel
theorem dX6_fits_8 : decode cX6_fits 8 = .ok (.if_icmp .ge 70, 3) := by decide +kernel
theorem dX6_fits_11 : decode cX6_fits 11 = .ok (.aload_n 0, 1) := by decide +kernel
theorem dX6_fits_12 : decode cX6_fits 12 = .ok (.getfield 9, 3) := by decide +kernel
theorem dX6_fits_15 : decode cX6_fits 15 = .ok (.iload_n 2, 1) := by decide +kernel
theorem dX6_fits_16 : decode cX6_fits 16 = .ok (.iaload, 1) := by decide +kernel
theorem dX6_fits_17 : decode cX6_fits 17 = .ok (.ifCond .lt 34, 3) := by decide +kernel
theorem dX6_fits_20 : decode cX6_fits 20 = .ok (.aload_n 0, 1) := by decide +kernel
theorem dX6_fits_21 : decode cX6_fits 21 = .ok (.getfield 9, 3) := by decide +kernel
theorem dX6_fits_24 : decode cX6_fits 24 = .ok (.iload_n 2, 1) := by decide +kernel
theorem dX6_fits_25 : decode cX6_fits 25 = .ok (.iaload, 1) := by decide +kernel
theorem dX6_fits_26 : decode cX6_fits 26 = .ok (.bipush 99, 2) := by decide +kernel
theorem dX6_fits_28 : decode cX6_fits 28 = .ok (.if_icmp .gt 23, 3) := by decide +kernel
theorem dX6_fits_31 : decode cX6_fits 31 = .ok (.aload_n 0, 1) := by decide +kernel
theorem dX6_fits_32 : decode cX6_fits 32 = .ok (.getfield 15, 3) := by decide +kernel
theorem dX6_fits_35 : decode cX6_fits 35 = .ok (.iload_n 2, 1) := by decide +kernel
theorem dX6_fits_36 : decode cX6_fits 36 = .ok (.iaload, 1) := by decide +kernel
theorem dX6_fits_37 : decode cX6_fits 37 = .ok (.ifCond .lt 14, 3) := by decide +kernel
theorem dX6_fits_40 : decode cX6_fits 40 = .ok (.aload_n 0, 1) := by decide +kernel
theorem dX6_fits_41 : decode cX6_fits 41 = .ok (.getfield 15, 3) := by decide +kernel
theorem dX6_fits_44 : decode cX6_fits 44 = .ok (.iload_n 2, 1) := by decide +kernel
theorem dX6_fits_45 : decode cX6_fits 45 = .ok (.iaload, 1) := by decide +kernel
theorem dX6_fits_46 : decode cX6_fits 46 = .ok (.bipush 99, 2) := by decide +kernel
theorem dX6_fits_48 : decode cX6_fits 48 = .ok (.if_icmp .le 5, 3) := by decide +kernel
theorem dX6_fits_51 : decode cX6_fits 51 = .ok (.iconst 0, 1) := by decide +kernel
theorem dX6_fits_52 : decode cX6_fits 52 = .ok (.ireturn, 1) := by decide +kernel
theorem dX6_fits_53 : decode cX6_fits 53 = .ok (.aload_n 0, 1) := by decide +kernel
theorem dX6_fits_54 : decode cX6_fits 54 = .ok (.getfield 9, 3) := by decide +kernel
theorem dX6_fits_57 : decode cX6_fits 57 = .ok (.iload_n 2, 1) := by decide +kernel
theorem dX6_fits_58 : decode cX6_fits 58 = .ok (.iaload, 1) := by decide +kernel
theorem dX6_fits_59 : decode cX6_fits 59 = .ok (.aload_n 0, 1) := by decide +kernel
theorem dX6_fits_60 : decode cX6_fits 60 = .ok (.getfield 15, 3) := by decide +kernel
theorem dX6_fits_63 : decode cX6_fits 63 = .ok (.iload_n 2, 1) := by decide +kernel
theorem dX6_fits_64 : decode cX6_fits 64 = .ok (.iaload, 1) := by decide +kernel
theorem dX6_fits_65 : decode cX6_fits 65 = .ok (.iadd, 1) := by decide +kernel
theorem dX6_fits_66 : decode cX6_fits 66 = .ok (.ifCond .le 6, 3) := by decide +kernel
theorem dX6_fits_69 : decode cX6_fits 69 = .ok (.iinc 1 1, 3) := by decide +kernel
theorem dX6_fits_72 : decode cX6_fits 72 = .ok (.iinc 2 1, 3) := by decide +kernel
theorem dX6_fits_75 : decode cX6_fits 75 = .ok (.goto (-71), 3) := by decide +kernel
theorem dX6_fits_78 : decode cX6_fits 78 = .ok (.iload_n 1, 1) := by decide +kernel
theorem dX6_fits_79 : decode cX6_fits 79 = .ok (.bipush 60, 2) := by decide +kernel
theorem dX6_fits_81 : decode cX6_fits 81 = .ok (.if_icmp .gt 7, 3) := by decide +kernel
theorem dX6_fits_84 : decode cX6_fits 84 = .ok (.iconst 1, 1) := by decide +kernel
theorem dX6_fits_85 : decode cX6_fits 85 = .ok (.goto 4, 3) := by decide +kernel
theorem dX6_fits_88 : decode cX6_fits 88 = .ok (.iconst 0, 1) := by decide +kernel
theorem dX6_fits_89 : decode cX6_fits 89 = .ok (.ireturn, 1) := by decide +kernel
theorem dX7_init_0 : decode cX7_init 0 = .ok (.aload_n 0, 1) := by decide +kernel
theorem dX7_init_1 : decode cX7_init 1 = .ok (.invokespecial 3, 3) := by decide +kernel
theorem dX7_init_4 : decode cX7_init 4 = .ok (.aload_n 0, 1) := by decide +kernel
theorem dX7_init_5 : decode cX7_init 5 = .ok (.bipush 60, 2) := by decide +kernel
theorem dX7_init_7 : decode cX7_init 7 = .ok (.newarray .int, 2) := by decide +kernel
theorem dX7_init_9 : decode cX7_init 9 = .ok (.putfield 9, 3) := by decide +kernel
theorem dX7_init_12 : decode cX7_init 12 = .ok (.aload_n 0, 1) := by decide +kernel
theorem dX7_init_13 : decode cX7_init 13 = .ok (.bipush 60, 2) := by decide +kernel
theorem dX7_init_15 : decode cX7_init 15 = .ok (.newarray .int, 2) := by decide +kernel
theorem dX7_init_17 : decode cX7_init 17 = .ok (.putfield 15, 3) := by decide +kernel
theorem dX7_init_20 : decode cX7_init 20 = .ok (.aload_n 0, 1) := by decide +kernel
theorem dX7_init_21 : decode cX7_init 21 = .ok (.bipush 60, 2) := by decide +kernel
theorem dX7_init_23 : decode cX7_init 23 = .ok (.newarray .int, 2) := by decide +kernel
theorem dX7_init_25 : decode cX7_init 25 = .ok (.putfield 18, 3) := by decide +kernel
theorem dX7_init_28 : decode cX7_init 28 = .ok (.aload_n 0, 1) := by decide +kernel
theorem dX7_init_29 : decode cX7_init 29 = .ok (.bipush 60, 2) := by decide +kernel
theorem dX7_init_31 : decode cX7_init 31 = .ok (.newarray .int, 2) := by decide +kernel
theorem dX7_init_33 : decode cX7_init 33 = .ok (.putfield 21, 3) := by decide +kernel
theorem dX7_init_36 : decode cX7_init 36 = .ok (.aload_n 0, 1) := by decide +kernel
theorem dX7_init_37 : decode cX7_init 37 = .ok (.iconst 3, 1) := by decide +kernel
theorem dX7_init_38 : decode cX7_init 38 = .ok (.newarray .int, 2) := by decide +kernel
theorem dX7_init_40 : decode cX7_init 40 = .ok (.putfield 24, 3) := by decide +kernel
theorem dX7_init_43 : decode cX7_init 43 = .ok (.aload_n 0, 1) := by decide +kernel
theorem dX7_init_44 : decode cX7_init 44 = .ok (.iconst (-1), 1) := by decide +kernel
theorem dX7_init_45 : decode cX7_init 45 = .ok (.putfield 27, 3) := by decide +kernel
theorem dX7_init_48 : decode cX7_init 48 = .ok (.return_, 1) := by decide +kernel
theorem dX7_readAll_0 : decode cX7_readAll 0 = .ok (.aload_n 0, 1) := by decide +kernel
theorem dX7_readAll_1 : decode cX7_readAll 1 = .ok (.invokevirtual 31, 3) := by decide +kernel
theorem dX7_readAll_4 : decode cX7_readAll 4 = .ok (.aload_n 0, 1) := by decide +kernel
theorem dX7_readAll_5 : decode cX7_readAll 5 = .ok (.aload_n 1, 1) := by decide +kernel
theorem dX7_readAll_6 : decode cX7_readAll 6 = .ok (.invokevirtual 34, 3) := by decide +kernel
theorem dX7_readAll_9 : decode cX7_readAll 9 = .ok (.iconst 0, 1) := by decide +kernel
theorem dX7_readAll_10 : decode cX7_readAll 10 = .ok (.istore_n 3, 1) := by decide +kernel
theorem dX7_readAll_11 : decode cX7_readAll 11 = .ok (.iload_n 3, 1) := by decide +kernel
theorem dX7_readAll_12 : decode cX7_readAll 12 = .ok (.sipush 1600, 3) := by decide +kernel
theorem dX7_readAll_15 : decode cX7_readAll 15 = .ok (.if_icmp .gt 57, 3) := by decide +kernel
theorem dX7_readAll_18 : decode cX7_readAll 18 = .ok (.aload_n 0, 1) := by decide +kernel
theorem dX7_readAll_19 : decode cX7_readAll 19 = .ok (.getfield 38, 3) := by decide +kernel
theorem dX7_readAll_22 : decode cX7_readAll 22 = .ok (.ifCond .ne 50, 3) := by decide +kernel
theorem dX7_readAll_25 : decode cX7_readAll 25 = .ok (.aload_n 0, 1) := by decide +kernel
theorem dX7_readAll_26 : decode cX7_readAll 26 = .ok (.getfield 41, 3) := by decide +kernel
theorem dX7_readAll_29 : decode cX7_readAll 29 = .ok (.ifCond .eq 43, 3) := by decide +kernel
theorem dX7_readAll_32 : decode cX7_readAll 32 = .ok (.aload_n 0, 1) := by decide +kernel
theorem dX7_readAll_33 : decode cX7_readAll 33 = .ok (.aload_n 1, 1) := by decide +kernel
theorem dX7_readAll_34 : decode cX7_readAll 34 = .ok (.iload_n 2, 1) := by decide +kernel
theorem dX7_readAll_35 : decode cX7_readAll 35 = .ok (.invokevirtual 44, 3) := by decide +kernel
theorem dX7_readAll_38 : decode cX7_readAll 38 = .ok (.aload_n 0, 1) := by decide +kernel
theorem dX7_readAll_39 : decode cX7_readAll 39 = .ok (.getfield 41, 3) := by decide +kernel
theorem dX7_readAll_42 : decode cX7_readAll 42 = .ok (.iconst 3, 1) := by decide +kernel
theorem dX7_readAll_43 : decode cX7_readAll 43 = .ok (.if_icmp .eq 8, 3) := by decide +kernel
theorem dX7_readAll_46 : decode cX7_readAll 46 = .ok (.aload_n 0, 1) := by decide +kernel
theorem dX7_readAll_47 : decode cX7_readAll 47 = .ok (.iconst 1, 1) := by decide +kernel
theorem dX7_readAll_48 : decode cX7_readAll 48 = .ok (.invokevirtual 48, 3) := by decide +kernel
theorem dX7_readAll_51 : decode cX7_readAll 51 = .ok (.aload_n 0, 1) := by decide +kernel
theorem dX7_readAll_52 : decode cX7_readAll 52 = .ok (.dup, 1) := by decide +kernel
theorem dX7_readAll_53 : decode cX7_readAll 53 = .ok (.getfield 52, 3) := by decide +kernel
theorem dX7_readAll_56 : decode cX7_readAll 56 = .ok (.iconst 1, 1) := by decide +kernel
theorem dX7_readAll_57 : decode cX7_readAll 57 = .ok (.iadd, 1) := by decide +kernel
theorem dX7_readAll_58 : decode cX7_readAll 58 = .ok (.putfield 52, 3) := by decide +kernel
theorem dX7_readAll_61 : decode cX7_readAll 61 = .ok (.aload_n 0, 1) := by decide +kernel
theorem dX7_readAll_62 : decode cX7_readAll 62 = .ok (.aload_n 1, 1) := by decide +kernel
theorem dX7_readAll_63 : decode cX7_readAll 63 = .ok (.invokevirtual 34, 3) := by decide +kernel
theorem dX7_readAll_66 : decode cX7_readAll 66 = .ok (.iinc 3 1, 3) := by decide +kernel
theorem dX7_readAll_69 : decode cX7_readAll 69 = .ok (.goto (-58), 3) := by decide +kernel
theorem dX7_readAll_72 : decode cX7_readAll 72 = .ok (.return_, 1) := by decide +kernel
theorem dX7_begin_0 : decode cX7_begin 0 = .ok (.aload_n 0, 1) := by decide +kernel
theorem dX7_begin_1 : decode cX7_begin 1 = .ok (.iconst 0, 1) := by decide +kernel
theorem dX7_begin_2 : decode cX7_begin 2 = .ok (.putfield 55, 3) := by decide +kernel
theorem dX7_begin_5 : decode cX7_begin 5 = .ok (.aload_n 0, 1) := by decide +kernel
theorem dX7_begin_6 : decode cX7_begin 6 = .ok (.iconst 0, 1) := by decide +kernel
theorem dX7_begin_7 : decode cX7_begin 7 = .ok (.putfield 52, 3) := by decide +kernel
theorem dX7_begin_10 : decode cX7_begin 10 = .ok (.aload_n 0, 1) := by decide +kernel
theorem dX7_begin_11 : decode cX7_begin 11 = .ok (.iconst 1, 1) := by decide +kernel
theorem dX7_begin_12 : decode cX7_begin 12 = .ok (.putfield 58, 3) := by decide +kernel
theorem dX7_begin_15 : decode cX7_begin 15 = .ok (.aload_n 0, 1) := by decide +kernel
theorem dX7_begin_16 : decode cX7_begin 16 = .ok (.bipush 60, 2) := by decide +kernel
theorem dX7_begin_18 : decode cX7_begin 18 = .ok (.putfield 61, 3) := by decide +kernel
theorem dX7_begin_21 : decode cX7_begin 21 = .ok (.aload_n 0, 1) := by decide +kernel
theorem dX7_begin_22 : decode cX7_begin 22 = .ok (.getfield 24, 3) := by decide +kernel
theorem dX7_begin_25 : decode cX7_begin 25 = .ok (.iconst 0, 1) := by decide +kernel
theorem dX7_begin_26 : decode cX7_begin 26 = .ok (.iconst 1, 1) := by decide +kernel
theorem dX7_begin_27 : decode cX7_begin 27 = .ok (.iastore, 1) := by decide +kernel
theorem dX7_begin_28 : decode cX7_begin 28 = .ok (.aload_n 0, 1) := by decide +kernel
theorem dX7_begin_29 : decode cX7_begin 29 = .ok (.getfield 24, 3) := by decide +kernel
theorem dX7_begin_32 : decode cX7_begin 32 = .ok (.iconst 1, 1) := by decide +kernel
theorem dX7_begin_33 : decode cX7_begin 33 = .ok (.iconst 5, 1) := by decide +kernel
theorem dX7_begin_34 : decode cX7_begin 34 = .ok (.iastore, 1) := by decide +kernel
theorem dX7_begin_35 : decode cX7_begin 35 = .ok (.aload_n 0, 1) := by decide +kernel
theorem dX7_begin_36 : decode cX7_begin 36 = .ok (.getfield 24, 3) := by decide +kernel
theorem dX7_begin_39 : decode cX7_begin 39 = .ok (.iconst 2, 1) := by decide +kernel
theorem dX7_begin_40 : decode cX7_begin 40 = .ok (.iconst 1, 1) := by decide +kernel
theorem dX7_begin_41 : decode cX7_begin 41 = .ok (.iastore, 1) := by decide +kernel
theorem dX7_begin_42 : decode cX7_begin 42 = .ok (.aload_n 0, 1) := by decide +kernel
theorem dX7_begin_43 : decode cX7_begin 43 = .ok (.iconst 0, 1) := by decide +kernel
theorem dX7_begin_44 : decode cX7_begin 44 = .ok (.putfield 64, 3) := by decide +kernel
theorem dX7_begin_47 : decode cX7_begin 47 = .ok (.aload_n 0, 1) := by decide +kernel
theorem dX7_begin_48 : decode cX7_begin 48 = .ok (.iconst 0, 1) := by decide +kernel
theorem dX7_begin_49 : decode cX7_begin 49 = .ok (.putfield 38, 3) := by decide +kernel
theorem dX7_begin_52 : decode cX7_begin 52 = .ok (.aload_n 0, 1) := by decide +kernel
theorem dX7_begin_53 : decode cX7_begin 53 = .ok (.iconst (-1), 1) := by decide +kernel
theorem dX7_begin_54 : decode cX7_begin 54 = .ok (.putfield 27, 3) := by decide +kernel
theorem dX7_begin_57 : decode cX7_begin 57 = .ok (.aload_n 0, 1) := by decide +kernel
theorem dX7_begin_58 : decode cX7_begin 58 = .ok (.iconst 0, 1) := by decide +kernel
theorem dX7_begin_59 : decode cX7_begin 59 = .ok (.putfield 67, 3) := by decide +kernel
theorem dX7_begin_62 : decode cX7_begin 62 = .ok (.return_, 1) := by decide +kernel
theorem dX7_fail_0 : decode cX7_fail 0 = .ok (.aload_n 0, 1) := by decide +kernel
theorem dX7_fail_1 : decode cX7_fail 1 = .ok (.getfield 38, 3) := by decide +kernel
theorem dX7_fail_4 : decode cX7_fail 4 = .ok (.ifCond .ne 16, 3) := by decide +kernel
theorem dX7_fail_7 : decode cX7_fail 7 = .ok (.aload_n 0, 1) := by decide +kernel
theorem dX7_fail_8 : decode cX7_fail 8 = .ok (.iload_n 1, 1) := by decide +kernel
theorem dX7_fail_9 : decode cX7_fail 9 = .ok (.putfield 38, 3) := by decide +kernel
theorem dX7_fail_12 : decode cX7_fail 12 = .ok (.aload_n 0, 1) := by decide +kernel
theorem dX7_fail_13 : decode cX7_fail 13 = .ok (.aload_n 0, 1) := by decide +kernel
theorem dX7_fail_14 : decode cX7_fail 14 = .ok (.getfield 70, 3) := by decide +kernel
theorem dX7_fail_17 : decode cX7_fail 17 = .ok (.putfield 27, 3) := by decide +kernel
theorem dX7_fail_20 : decode cX7_fail 20 = .ok (.return_, 1) := by decide +kernel
theorem dX7_readLine_0 : decode cX7_readLine 0 = .ok (.aload_n 0, 1) := by decide +kernel
theorem dX7_readLine_1 : decode cX7_readLine 1 = .ok (.aload_n 1, 1) := by decide +kernel
theorem dX7_readLine_2 : decode cX7_readLine 2 = .ok (.ldc 73, 2) := by decide +kernel
theorem dX7_readLine_4 : decode cX7_readLine 4 = .ok (.invokevirtual 75, 3) := by decide +kernel
theorem dX7_readLine_7 : decode cX7_readLine 7 = .ok (.ifCond .eq 11, 3) := by decide +kernel
theorem dX7_readLine_10 : decode cX7_readLine 10 = .ok (.aload_n 0, 1) := by decide +kernel
theorem dX7_readLine_11 : decode cX7_readLine 11 = .ok (.aload_n 1, 1) := by decide +kernel
theorem dX7_readLine_12 : decode cX7_readLine 12 = .ok (.invokevirtual 79, 3) := by decide +kernel
theorem dX7_readLine_15 : decode cX7_readLine 15 = .ok (.goto 146, 3) := by decide +kernel
theorem dX7_readLine_18 : decode cX7_readLine 18 = .ok (.iload_n 2, 1) := by decide +kernel
theorem dX7_readLine_19 : decode cX7_readLine 19 = .ok (.ifCond .ne 39, 3) := by decide +kernel
theorem dX7_readLine_22 : decode cX7_readLine 22 = .ok (.aload_n 0, 1) := by decide +kernel
theorem dX7_readLine_23 : decode cX7_readLine 23 = .ok (.aload_n 1, 1) := by decide +kernel
theorem dX7_readLine_24 : decode cX7_readLine 24 = .ok (.ldc 82, 2) := by decide +kernel
theorem dX7_readLine_26 : decode cX7_readLine 26 = .ok (.invokevirtual 75, 3) := by decide +kernel
theorem dX7_readLine_29 : decode cX7_readLine 29 = .ok (.ifCond .eq 29, 3) := by decide +kernel
theorem dX7_readLine_32 : decode cX7_readLine 32 = .ok (.aload_n 0, 1) := by decide +kernel
theorem dX7_readLine_33 : decode cX7_readLine 33 = .ok (.iconst 1, 1) := by decide +kernel
theorem dX7_readLine_34 : decode cX7_readLine 34 = .ok (.invokevirtual 83, 3) := by decide +kernel
theorem dX7_readLine_37 : decode cX7_readLine 37 = .ok (.aload_n 0, 1) := by decide +kernel
theorem dX7_readLine_38 : decode cX7_readLine 38 = .ok (.aload_n 0, 1) := by decide +kernel
theorem dX7_readLine_39 : decode cX7_readLine 39 = .ok (.aload_n 1, 1) := by decide +kernel
theorem dX7_readLine_40 : decode cX7_readLine 40 = .ok (.iconst 0, 1) := by decide +kernel
theorem dX7_readLine_41 : decode cX7_readLine 41 = .ok (.sipush 9999, 3) := by decide +kernel
theorem dX7_readLine_44 : decode cX7_readLine 44 = .ok (.invokevirtual 86, 3) := by decide +kernel
theorem dX7_readLine_47 : decode cX7_readLine 47 = .ok (.putfield 58, 3) := by decide +kernel
theorem dX7_readLine_50 : decode cX7_readLine 50 = .ok (.aload_n 0, 1) := by decide +kernel
theorem dX7_readLine_51 : decode cX7_readLine 51 = .ok (.aload_n 1, 1) := by decide +kernel
theorem dX7_readLine_52 : decode cX7_readLine 52 = .ok (.invokevirtual 34, 3) := by decide +kernel
theorem dX7_readLine_55 : decode cX7_readLine 55 = .ok (.goto 106, 3) := by decide +kernel
theorem dX7_readLine_58 : decode cX7_readLine 58 = .ok (.iload_n 2, 1) := by decide +kernel
theorem dX7_readLine_59 : decode cX7_readLine 59 = .ok (.ifCond .ne 38, 3) := by decide +kernel
theorem dX7_readLine_62 : decode cX7_readLine 62 = .ok (.aload_n 0, 1) := by decide +kernel
theorem dX7_readLine_63 : decode cX7_readLine 63 = .ok (.aload_n 1, 1) := by decide +kernel
theorem dX7_readLine_64 : decode cX7_readLine 64 = .ok (.ldc 90, 2) := by decide +kernel
theorem dX7_readLine_66 : decode cX7_readLine 66 = .ok (.invokevirtual 75, 3) := by decide +kernel
theorem dX7_readLine_69 : decode cX7_readLine 69 = .ok (.ifCond .eq 28, 3) := by decide +kernel
theorem dX7_readLine_72 : decode cX7_readLine 72 = .ok (.aload_n 0, 1) := by decide +kernel
theorem dX7_readLine_73 : decode cX7_readLine 73 = .ok (.iconst 2, 1) := by decide +kernel
theorem dX7_readLine_74 : decode cX7_readLine 74 = .ok (.invokevirtual 83, 3) := by decide +kernel
theorem dX7_readLine_77 : decode cX7_readLine 77 = .ok (.aload_n 0, 1) := by decide +kernel
theorem dX7_readLine_78 : decode cX7_readLine 78 = .ok (.aload_n 0, 1) := by decide +kernel
theorem dX7_readLine_79 : decode cX7_readLine 79 = .ok (.aload_n 1, 1) := by decide +kernel
theorem dX7_readLine_80 : decode cX7_readLine 80 = .ok (.iconst 1, 1) := by decide +kernel
theorem dX7_readLine_81 : decode cX7_readLine 81 = .ok (.bipush 60, 2) := by decide +kernel
theorem dX7_readLine_83 : decode cX7_readLine 83 = .ok (.invokevirtual 86, 3) := by decide +kernel
theorem dX7_readLine_86 : decode cX7_readLine 86 = .ok (.putfield 61, 3) := by decide +kernel
theorem dX7_readLine_89 : decode cX7_readLine 89 = .ok (.aload_n 0, 1) := by decide +kernel
theorem dX7_readLine_90 : decode cX7_readLine 90 = .ok (.aload_n 1, 1) := by decide +kernel
theorem dX7_readLine_91 : decode cX7_readLine 91 = .ok (.invokevirtual 34, 3) := by decide +kernel
theorem dX7_readLine_94 : decode cX7_readLine 94 = .ok (.goto 67, 3) := by decide +kernel
theorem dX7_readLine_97 : decode cX7_readLine 97 = .ok (.iload_n 2, 1) := by decide +kernel
theorem dX7_readLine_98 : decode cX7_readLine 98 = .ok (.ifCond .ne 58, 3) := by decide +kernel
theorem dX7_readLine_101 : decode cX7_readLine 101 = .ok (.aload_n 0, 1) := by decide +kernel
theorem dX7_readLine_102 : decode cX7_readLine 102 = .ok (.aload_n 1, 1) := by decide +kernel
theorem dX7_readLine_103 : decode cX7_readLine 103 = .ok (.ldc 91, 2) := by decide +kernel
theorem dX7_readLine_105 : decode cX7_readLine 105 = .ok (.invokevirtual 75, 3) := by decide +kernel
theorem dX7_readLine_108 : decode cX7_readLine 108 = .ok (.ifCond .eq 48, 3) := by decide +kernel
theorem dX7_readLine_111 : decode cX7_readLine 111 = .ok (.aload_n 0, 1) := by decide +kernel
theorem dX7_readLine_112 : decode cX7_readLine 112 = .ok (.iconst 4, 1) := by decide +kernel
theorem dX7_readLine_113 : decode cX7_readLine 113 = .ok (.invokevirtual 83, 3) := by decide +kernel
theorem dX7_readLine_116 : decode cX7_readLine 116 = .ok (.iconst 0, 1) := by decide +kernel
theorem dX7_readLine_117 : decode cX7_readLine 117 = .ok (.istore_n 3, 1) := by decide +kernel
theorem dX7_readLine_118 : decode cX7_readLine 118 = .ok (.iload_n 3, 1) := by decide +kernel
theorem dX7_readLine_119 : decode cX7_readLine 119 = .ok (.aload_n 0, 1) := by decide +kernel
theorem dX7_readLine_120 : decode cX7_readLine 120 = .ok (.getfield 24, 3) := by decide +kernel
theorem dX7_readLine_123 : decode cX7_readLine 123 = .ok (.arraylength, 1) := by decide +kernel
theorem dX7_readLine_124 : decode cX7_readLine 124 = .ok (.if_icmp .ge 24, 3) := by decide +kernel
theorem dX7_readLine_127 : decode cX7_readLine 127 = .ok (.aload_n 0, 1) := by decide +kernel
theorem dX7_readLine_128 : decode cX7_readLine 128 = .ok (.getfield 24, 3) := by decide +kernel
theorem dX7_readLine_131 : decode cX7_readLine 131 = .ok (.iload_n 3, 1) := by decide +kernel
theorem dX7_readLine_132 : decode cX7_readLine 132 = .ok (.aload_n 0, 1) := by decide +kernel
theorem dX7_readLine_133 : decode cX7_readLine 133 = .ok (.aload_n 1, 1) := by decide +kernel
theorem dX7_readLine_134 : decode cX7_readLine 134 = .ok (.iconst 0, 1) := by decide +kernel
theorem dX7_readLine_135 : decode cX7_readLine 135 = .ok (.sipush 999, 3) := by decide +kernel
theorem dX7_readLine_138 : decode cX7_readLine 138 = .ok (.invokevirtual 86, 3) := by decide +kernel
theorem dX7_readLine_141 : decode cX7_readLine 141 = .ok (.iastore, 1) := by decide +kernel
theorem dX7_readLine_142 : decode cX7_readLine 142 = .ok (.iinc 3 1, 3) := by decide +kernel
theorem dX7_readLine_145 : decode cX7_readLine 145 = .ok (.goto (-27), 3) := by decide +kernel
theorem dX7_readLine_148 : decode cX7_readLine 148 = .ok (.aload_n 0, 1) := by decide +kernel
theorem dX7_readLine_149 : decode cX7_readLine 149 = .ok (.aload_n 1, 1) := by decide +kernel
theorem dX7_readLine_150 : decode cX7_readLine 150 = .ok (.invokevirtual 34, 3) := by decide +kernel
theorem dX7_readLine_153 : decode cX7_readLine 153 = .ok (.goto 8, 3) := by decide +kernel
theorem dX7_readLine_156 : decode cX7_readLine 156 = .ok (.aload_n 0, 1) := by decide +kernel
theorem dX7_readLine_157 : decode cX7_readLine 157 = .ok (.iconst 1, 1) := by decide +kernel
theorem dX7_readLine_158 : decode cX7_readLine 158 = .ok (.invokevirtual 48, 3) := by decide +kernel
theorem dX7_readLine_161 : decode cX7_readLine 161 = .ok (.return_, 1) := by decide +kernel
theorem dX7_tellOnce_0 : decode cX7_tellOnce 0 = .ok (.aload_n 0, 1) := by decide +kernel
theorem dX7_tellOnce_1 : decode cX7_tellOnce 1 = .ok (.getfield 64, 3) := by decide +kernel
theorem dX7_tellOnce_4 : decode cX7_tellOnce 4 = .ok (.iload_n 1, 1) := by decide +kernel
theorem dX7_tellOnce_5 : decode cX7_tellOnce 5 = .ok (.iand, 1) := by decide +kernel
theorem dX7_tellOnce_6 : decode cX7_tellOnce 6 = .ok (.ifCond .eq 8, 3) := by decide +kernel
theorem dX7_tellOnce_9 : decode cX7_tellOnce 9 = .ok (.aload_n 0, 1) := by decide +kernel
theorem dX7_tellOnce_10 : decode cX7_tellOnce 10 = .ok (.iconst 3, 1) := by decide +kernel
theorem dX7_tellOnce_11 : decode cX7_tellOnce 11 = .ok (.invokevirtual 48, 3) := by decide +kernel
theorem dX7_tellOnce_14 : decode cX7_tellOnce 14 = .ok (.aload_n 0, 1) := by decide +kernel
theorem dX7_tellOnce_15 : decode cX7_tellOnce 15 = .ok (.dup, 1) := by decide +kernel
theorem dX7_tellOnce_16 : decode cX7_tellOnce 16 = .ok (.getfield 64, 3) := by decide +kernel
theorem dX7_tellOnce_19 : decode cX7_tellOnce 19 = .ok (.iload_n 1, 1) := by decide +kernel
theorem dX7_tellOnce_20 : decode cX7_tellOnce 20 = .ok (.ior, 1) := by decide +kernel
theorem dX7_tellOnce_21 : decode cX7_tellOnce 21 = .ok (.putfield 64, 3) := by decide +kernel
theorem dX7_tellOnce_24 : decode cX7_tellOnce 24 = .ok (.return_, 1) := by decide +kernel
theorem dX7_readAt_0 : decode cX7_readAt 0 = .ok (.aload_n 0, 1) := by decide +kernel
theorem dX7_readAt_1 : decode cX7_readAt 1 = .ok (.getfield 55, 3) := by decide +kernel
theorem dX7_readAt_4 : decode cX7_readAt 4 = .ok (.bipush 60, 2) := by decide +kernel
theorem dX7_readAt_6 : decode cX7_readAt 6 = .ok (.if_icmp .lt 9, 3) := by decide +kernel
theorem dX7_readAt_9 : decode cX7_readAt 9 = .ok (.aload_n 0, 1) := by decide +kernel
theorem dX7_readAt_10 : decode cX7_readAt 10 = .ok (.iconst 4, 1) := by decide +kernel
theorem dX7_readAt_11 : decode cX7_readAt 11 = .ok (.invokevirtual 48, 3) := by decide +kernel
theorem dX7_readAt_14 : decode cX7_readAt 14 = .ok (.return_, 1) := by decide +kernel
theorem dX7_readAt_15 : decode cX7_readAt 15 = .ok (.aload_n 0, 1) := by decide +kernel
theorem dX7_readAt_16 : decode cX7_readAt 16 = .ok (.getfield 9, 3) := by decide +kernel
theorem dX7_readAt_19 : decode cX7_readAt 19 = .ok (.aload_n 0, 1) := by decide +kernel
theorem dX7_readAt_20 : decode cX7_readAt 20 = .ok (.getfield 55, 3) := by decide +kernel
theorem dX7_readAt_23 : decode cX7_readAt 23 = .ok (.aload_n 0, 1) := by decide +kernel
theorem dX7_readAt_24 : decode cX7_readAt 24 = .ok (.aload_n 1, 1) := by decide +kernel
theorem dX7_readAt_25 : decode cX7_readAt 25 = .ok (.iconst 0, 1) := by decide +kernel
theorem dX7_readAt_26 : decode cX7_readAt 26 = .ok (.sipush 999, 3) := by decide +kernel
theorem dX7_readAt_29 : decode cX7_readAt 29 = .ok (.invokevirtual 86, 3) := by decide +kernel
theorem dX7_readAt_32 : decode cX7_readAt 32 = .ok (.iastore, 1) := by decide +kernel
theorem dX7_readAt_33 : decode cX7_readAt 33 = .ok (.aload_n 0, 1) := by decide +kernel
theorem dX7_readAt_34 : decode cX7_readAt 34 = .ok (.aload_n 0, 1) := by decide +kernel
theorem dX7_readAt_35 : decode cX7_readAt 35 = .ok (.getfield 9, 3) := by decide +kernel
theorem dX7_readAt_38 : decode cX7_readAt 38 = .ok (.aload_n 0, 1) := by decide +kernel
theorem dX7_readAt_39 : decode cX7_readAt 39 = .ok (.getfield 55, 3) := by decide +kernel
theorem dX7_readAt_42 : decode cX7_readAt 42 = .ok (.iaload, 1) := by decide +kernel
theorem dX7_readAt_43 : decode cX7_readAt 43 = .ok (.invokevirtual 93, 3) := by decide +kernel
theorem dX7_readAt_46 : decode cX7_readAt 46 = .ok (.ifCond .eq 8, 3) := by decide +kernel
theorem dX7_readAt_49 : decode cX7_readAt 49 = .ok (.aload_n 0, 1) := by decide +kernel
theorem dX7_readAt_50 : decode cX7_readAt 50 = .ok (.iconst 3, 1) := by decide +kernel
theorem dX7_readAt_51 : decode cX7_readAt 51 = .ok (.invokevirtual 48, 3) := by decide +kernel
theorem dX7_readAt_54 : decode cX7_readAt 54 = .ok (.aload_n 0, 1) := by decide +kernel
theorem dX7_readAt_55 : decode cX7_readAt 55 = .ok (.aload_n 1, 1) := by decide +kernel
theorem dX7_readAt_56 : decode cX7_readAt 56 = .ok (.ldc 97, 2) := by decide +kernel
theorem dX7_readAt_58 : decode cX7_readAt 58 = .ok (.invokevirtual 98, 3) := by decide +kernel
theorem dX7_readAt_61 : decode cX7_readAt 61 = .ok (.aload_n 0, 1) := by decide +kernel
theorem dX7_readAt_62 : decode cX7_readAt 62 = .ok (.getfield 15, 3) := by decide +kernel
theorem dX7_readAt_65 : decode cX7_readAt 65 = .ok (.aload_n 0, 1) := by decide +kernel
theorem dX7_readAt_66 : decode cX7_readAt 66 = .ok (.getfield 55, 3) := by decide +kernel
theorem dX7_readAt_69 : decode cX7_readAt 69 = .ok (.aload_n 0, 1) := by decide +kernel
theorem dX7_readAt_70 : decode cX7_readAt 70 = .ok (.aload_n 1, 1) := by decide +kernel
