theorem dX4_fillPure_0 : decode cX4_fillPure 0 = .ok (.aload_n 0, 1) := by decide +kernel
theorem dX4_fillPure_1 : decode cX4_fillPure 1 = .ok (.iconst 0, 1) := by decide +kernel
theorem dX4_fillPure_2 : decode cX4_fillPure 2 = .ok (.putfield 27, 3) := by decide +kernel
theorem dX4_fillPure_5 : decode cX4_fillPure 5 = .ok (.iconst 0, 1) := by decide +kernel
theorem dX4_fillPure_6 : decode cX4_fillPure 6 = .ok (.istore_n 2, 1) := by decide +kernel
theorem dX4_fillPure_7 : decode cX4_fillPure 7 = .ok (.iload_n 2, 1) := by decide +kernel
theorem dX4_fillPure_8 : decode cX4_fillPure 8 = .ok (.aload_n 1, 1) := by decide +kernel
theorem dX4_fillPure_9 : decode cX4_fillPure 9 = .ok (.getfield 31, 3) := by decide +kernel
theorem dX4_fillPure_12 : decode cX4_fillPure 12 = .ok (.if_icmp .ge 122, 3) := by decide +kernel
theorem dX4_fillPure_15 : decode cX4_fillPure 15 = .ok (.aload_n 0, 1) := by decide +kernel
theorem dX4_fillPure_16 : decode cX4_fillPure 16 = .ok (.getfield 9, 3) := by decide +kernel
theorem dX4_fillPure_19 : decode cX4_fillPure 19 = .ok (.aload_n 0, 1) := by decide +kernel
theorem dX4_fillPure_20 : decode cX4_fillPure 20 = .ok (.getfield 27, 3) := by decide +kernel
theorem dX4_fillPure_23 : decode cX4_fillPure 23 = .ok (.aload_n 1, 1) := by decide +kernel
theorem dX4_fillPure_24 : decode cX4_fillPure 24 = .ok (.getfield 34, 3) := by decide +kernel
theorem dX4_fillPure_27 : decode cX4_fillPure 27 = .ok (.iload_n 2, 1) := by decide +kernel
theorem dX4_fillPure_28 : decode cX4_fillPure 28 = .ok (.iaload, 1) := by decide +kernel
theorem dX4_fillPure_29 : decode cX4_fillPure 29 = .ok (.iastore, 1) := by decide +kernel
theorem dX4_fillPure_30 : decode cX4_fillPure 30 = .ok (.aload_n 0, 1) := by decide +kernel
theorem dX4_fillPure_31 : decode cX4_fillPure 31 = .ok (.getfield 15, 3) := by decide +kernel
theorem dX4_fillPure_34 : decode cX4_fillPure 34 = .ok (.aload_n 0, 1) := by decide +kernel
theorem dX4_fillPure_35 : decode cX4_fillPure 35 = .ok (.getfield 27, 3) := by decide +kernel
theorem dX4_fillPure_38 : decode cX4_fillPure 38 = .ok (.aload_n 1, 1) := by decide +kernel
theorem dX4_fillPure_39 : decode cX4_fillPure 39 = .ok (.getfield 34, 3) := by decide +kernel
theorem dX4_fillPure_42 : decode cX4_fillPure 42 = .ok (.iload_n 2, 1) := by decide +kernel
theorem dX4_fillPure_43 : decode cX4_fillPure 43 = .ok (.iaload, 1) := by decide +kernel
theorem dX4_fillPure_44 : decode cX4_fillPure 44 = .ok (.iastore, 1) := by decide +kernel
theorem dX4_fillPure_45 : decode cX4_fillPure 45 = .ok (.aload_n 0, 1) := by decide +kernel
theorem dX4_fillPure_46 : decode cX4_fillPure 46 = .ok (.getfield 18, 3) := by decide +kernel
theorem dX4_fillPure_49 : decode cX4_fillPure 49 = .ok (.aload_n 0, 1) := by decide +kernel
theorem dX4_fillPure_50 : decode cX4_fillPure 50 = .ok (.getfield 27, 3) := by decide +kernel
theorem dX4_fillPure_53 : decode cX4_fillPure 53 = .ok (.aload_n 1, 1) := by decide +kernel
theorem dX4_fillPure_54 : decode cX4_fillPure 54 = .ok (.getfield 37, 3) := by decide +kernel
theorem dX4_fillPure_57 : decode cX4_fillPure 57 = .ok (.iload_n 2, 1) := by decide +kernel
theorem dX4_fillPure_58 : decode cX4_fillPure 58 = .ok (.iaload, 1) := by decide +kernel
theorem dX4_fillPure_59 : decode cX4_fillPure 59 = .ok (.iastore, 1) := by decide +kernel
theorem dX4_fillPure_60 : decode cX4_fillPure 60 = .ok (.aload_n 0, 1) := by decide +kernel
theorem dX4_fillPure_61 : decode cX4_fillPure 61 = .ok (.getfield 21, 3) := by decide +kernel
theorem dX4_fillPure_64 : decode cX4_fillPure 64 = .ok (.aload_n 0, 1) := by decide +kernel
theorem dX4_fillPure_65 : decode cX4_fillPure 65 = .ok (.getfield 27, 3) := by decide +kernel
theorem dX4_fillPure_68 : decode cX4_fillPure 68 = .ok (.aload_n 1, 1) := by decide +kernel
theorem dX4_fillPure_69 : decode cX4_fillPure 69 = .ok (.getfield 38, 3) := by decide +kernel
theorem dX4_fillPure_72 : decode cX4_fillPure 72 = .ok (.iload_n 2, 1) := by decide +kernel
theorem dX4_fillPure_73 : decode cX4_fillPure 73 = .ok (.iaload, 1) := by decide +kernel
theorem dX4_fillPure_74 : decode cX4_fillPure 74 = .ok (.iastore, 1) := by decide +kernel
theorem dX4_fillPure_75 : decode cX4_fillPure 75 = .ok (.aload_n 0, 1) := by decide +kernel
theorem dX4_fillPure_76 : decode cX4_fillPure 76 = .ok (.getfield 24, 3) := by decide +kernel
theorem dX4_fillPure_79 : decode cX4_fillPure 79 = .ok (.aload_n 0, 1) := by decide +kernel
theorem dX4_fillPure_80 : decode cX4_fillPure 80 = .ok (.getfield 27, 3) := by decide +kernel
theorem dX4_fillPure_83 : decode cX4_fillPure 83 = .ok (.iconst 1, 1) := by decide +kernel
theorem dX4_fillPure_84 : decode cX4_fillPure 84 = .ok (.iastore, 1) := by decide +kernel
theorem dX4_fillPure_85 : decode cX4_fillPure 85 = .ok (.aload_n 0, 1) := by decide +kernel
theorem dX4_fillPure_86 : decode cX4_fillPure 86 = .ok (.dup, 1) := by decide +kernel
theorem dX4_fillPure_87 : decode cX4_fillPure 87 = .ok (.getfield 27, 3) := by decide +kernel
theorem dX4_fillPure_90 : decode cX4_fillPure 90 = .ok (.iconst 1, 1) := by decide +kernel
theorem dX4_fillPure_91 : decode cX4_fillPure 91 = .ok (.iadd, 1) := by decide +kernel
theorem dX4_fillPure_92 : decode cX4_fillPure 92 = .ok (.putfield 27, 3) := by decide +kernel
theorem dX4_fillPure_95 : decode cX4_fillPure 95 = .ok (.aload_n 0, 1) := by decide +kernel
theorem dX4_fillPure_96 : decode cX4_fillPure 96 = .ok (.getfield 27, 3) := by decide +kernel
theorem dX4_fillPure_99 : decode cX4_fillPure 99 = .ok (.istore_n 3, 1) := by decide +kernel
theorem dX4_fillPure_100 : decode cX4_fillPure 100 = .ok (.iload_n 3, 1) := by decide +kernel
theorem dX4_fillPure_101 : decode cX4_fillPure 101 = .ok (.iconst 2, 1) := by decide +kernel
theorem dX4_fillPure_102 : decode cX4_fillPure 102 = .ok (.if_icmp .lt 26, 3) := by decide +kernel
theorem dX4_fillPure_105 : decode cX4_fillPure 105 = .ok (.aload_n 0, 1) := by decide +kernel
theorem dX4_fillPure_106 : decode cX4_fillPure 106 = .ok (.iload_n 3, 1) := by decide +kernel
theorem dX4_fillPure_107 : decode cX4_fillPure 107 = .ok (.iconst 2, 1) := by decide +kernel
theorem dX4_fillPure_108 : decode cX4_fillPure 108 = .ok (.isub, 1) := by decide +kernel
theorem dX4_fillPure_109 : decode cX4_fillPure 109 = .ok (.invokevirtual 39, 3) := by decide +kernel
theorem dX4_fillPure_112 : decode cX4_fillPure 112 = .ok (.ifCond .ne 16, 3) := by decide +kernel
theorem dX4_fillPure_115 : decode cX4_fillPure 115 = .ok (.aload_n 0, 1) := by decide +kernel
theorem dX4_fillPure_116 : decode cX4_fillPure 116 = .ok (.iload_n 3, 1) := by decide +kernel
theorem dX4_fillPure_117 : decode cX4_fillPure 117 = .ok (.iconst 2, 1) := by decide +kernel
theorem dX4_fillPure_118 : decode cX4_fillPure 118 = .ok (.isub, 1) := by decide +kernel
theorem dX4_fillPure_119 : decode cX4_fillPure 119 = .ok (.invokevirtual 43, 3) := by decide +kernel
theorem dX4_fillPure_122 : decode cX4_fillPure 122 = .ok (.iinc 3 (-1), 3) := by decide +kernel
theorem dX4_fillPure_125 : decode cX4_fillPure 125 = .ok (.goto (-25), 3) := by decide +kernel
theorem dX4_fillPure_128 : decode cX4_fillPure 128 = .ok (.iinc 2 1, 3) := by decide +kernel
theorem dX4_fillPure_131 : decode cX4_fillPure 131 = .ok (.goto (-124), 3) := by decide +kernel
theorem dX4_fillPure_134 : decode cX4_fillPure 134 = .ok (.return_, 1) := by decide +kernel
theorem dX4_copy_0 : decode cX4_copy 0 = .ok (.aload_n 0, 1) := by decide +kernel
theorem dX4_copy_1 : decode cX4_copy 1 = .ok (.aload_n 1, 1) := by decide +kernel
theorem dX4_copy_2 : decode cX4_copy 2 = .ok (.getfield 27, 3) := by decide +kernel
theorem dX4_copy_5 : decode cX4_copy 5 = .ok (.putfield 27, 3) := by decide +kernel
theorem dX4_copy_8 : decode cX4_copy 8 = .ok (.aload_n 1, 1) := by decide +kernel
theorem dX4_copy_9 : decode cX4_copy 9 = .ok (.getfield 9, 3) := by decide +kernel
theorem dX4_copy_12 : decode cX4_copy 12 = .ok (.iconst 0, 1) := by decide +kernel
theorem dX4_copy_13 : decode cX4_copy 13 = .ok (.aload_n 0, 1) := by decide +kernel
theorem dX4_copy_14 : decode cX4_copy 14 = .ok (.getfield 9, 3) := by decide +kernel
theorem dX4_copy_17 : decode cX4_copy 17 = .ok (.iconst 0, 1) := by decide +kernel
theorem dX4_copy_18 : decode cX4_copy 18 = .ok (.aload_n 0, 1) := by decide +kernel
theorem dX4_copy_19 : decode cX4_copy 19 = .ok (.getfield 27, 3) := by decide +kernel
theorem dX4_copy_22 : decode cX4_copy 22 = .ok (.invokestatic 47, 3) := by decide +kernel
theorem dX4_copy_25 : decode cX4_copy 25 = .ok (.aload_n 1, 1) := by decide +kernel
theorem dX4_copy_26 : decode cX4_copy 26 = .ok (.getfield 15, 3) := by decide +kernel
theorem dX4_copy_29 : decode cX4_copy 29 = .ok (.iconst 0, 1) := by decide +kernel
theorem dX4_copy_30 : decode cX4_copy 30 = .ok (.aload_n 0, 1) := by decide +kernel
theorem dX4_copy_31 : decode cX4_copy 31 = .ok (.getfield 15, 3) := by decide +kernel
theorem dX4_copy_34 : decode cX4_copy 34 = .ok (.iconst 0, 1) := by decide +kernel
theorem dX4_copy_35 : decode cX4_copy 35 = .ok (.aload_n 0, 1) := by decide +kernel
theorem dX4_copy_36 : decode cX4_copy 36 = .ok (.getfield 27, 3) := by decide +kernel
theorem dX4_copy_39 : decode cX4_copy 39 = .ok (.invokestatic 47, 3) := by decide +kernel
theorem dX4_copy_42 : decode cX4_copy 42 = .ok (.aload_n 1, 1) := by decide +kernel
theorem dX4_copy_43 : decode cX4_copy 43 = .ok (.getfield 18, 3) := by decide +kernel
theorem dX4_copy_46 : decode cX4_copy 46 = .ok (.iconst 0, 1) := by decide +kernel
theorem dX4_copy_47 : decode cX4_copy 47 = .ok (.aload_n 0, 1) := by decide +kernel
theorem dX4_copy_48 : decode cX4_copy 48 = .ok (.getfield 18, 3) := by decide +kernel
theorem dX4_copy_51 : decode cX4_copy 51 = .ok (.iconst 0, 1) := by decide +kernel
theorem dX4_copy_52 : decode cX4_copy 52 = .ok (.aload_n 0, 1) := by decide +kernel
theorem dX4_copy_53 : decode cX4_copy 53 = .ok (.getfield 27, 3) := by decide +kernel
theorem dX4_copy_56 : decode cX4_copy 56 = .ok (.invokestatic 47, 3) := by decide +kernel
theorem dX4_copy_59 : decode cX4_copy 59 = .ok (.aload_n 1, 1) := by decide +kernel
theorem dX4_copy_60 : decode cX4_copy 60 = .ok (.getfield 21, 3) := by decide +kernel
theorem dX4_copy_63 : decode cX4_copy 63 = .ok (.iconst 0, 1) := by decide +kernel
theorem dX4_copy_64 : decode cX4_copy 64 = .ok (.aload_n 0, 1) := by decide +kernel
theorem dX4_copy_65 : decode cX4_copy 65 = .ok (.getfield 21, 3) := by decide +kernel
theorem dX4_copy_68 : decode cX4_copy 68 = .ok (.iconst 0, 1) := by decide +kernel
theorem dX4_copy_69 : decode cX4_copy 69 = .ok (.aload_n 0, 1) := by decide +kernel
theorem dX4_copy_70 : decode cX4_copy 70 = .ok (.getfield 27, 3) := by decide +kernel
theorem dX4_copy_73 : decode cX4_copy 73 = .ok (.invokestatic 47, 3) := by decide +kernel
theorem dX4_copy_76 : decode cX4_copy 76 = .ok (.aload_n 1, 1) := by decide +kernel
theorem dX4_copy_77 : decode cX4_copy 77 = .ok (.getfield 24, 3) := by decide +kernel
theorem dX4_copy_80 : decode cX4_copy 80 = .ok (.iconst 0, 1) := by decide +kernel
theorem dX4_copy_81 : decode cX4_copy 81 = .ok (.aload_n 0, 1) := by decide +kernel
theorem dX4_copy_82 : decode cX4_copy 82 = .ok (.getfield 24, 3) := by decide +kernel
theorem dX4_copy_85 : decode cX4_copy 85 = .ok (.iconst 0, 1) := by decide +kernel
theorem dX4_copy_86 : decode cX4_copy 86 = .ok (.aload_n 0, 1) := by decide +kernel
theorem dX4_copy_87 : decode cX4_copy 87 = .ok (.getfield 27, 3) := by decide +kernel
theorem dX4_copy_90 : decode cX4_copy 90 = .ok (.invokestatic 47, 3) := by decide +kernel
theorem dX4_copy_93 : decode cX4_copy 93 = .ok (.return_, 1) := by decide +kernel
theorem dX4_smallest_0 : decode cX4_smallest 0 = .ok (.iconst 0, 1) := by decide +kernel
theorem dX4_smallest_1 : decode cX4_smallest 1 = .ok (.istore_n 1, 1) := by decide +kernel
theorem dX4_smallest_2 : decode cX4_smallest 2 = .ok (.iconst 1, 1) := by decide +kernel
theorem dX4_smallest_3 : decode cX4_smallest 3 = .ok (.istore_n 2, 1) := by decide +kernel
theorem dX4_smallest_4 : decode cX4_smallest 4 = .ok (.iload_n 2, 1) := by decide +kernel
theorem dX4_smallest_5 : decode cX4_smallest 5 = .ok (.aload_n 0, 1) := by decide +kernel
theorem dX4_smallest_6 : decode cX4_smallest 6 = .ok (.getfield 27, 3) := by decide +kernel
theorem dX4_smallest_9 : decode cX4_smallest 9 = .ok (.if_icmp .ge 24, 3) := by decide +kernel
theorem dX4_smallest_12 : decode cX4_smallest 12 = .ok (.aload_n 0, 1) := by decide +kernel
theorem dX4_smallest_13 : decode cX4_smallest 13 = .ok (.iload_n 2, 1) := by decide +kernel
theorem dX4_smallest_14 : decode cX4_smallest 14 = .ok (.invokevirtual 57, 3) := by decide +kernel
theorem dX4_smallest_17 : decode cX4_smallest 17 = .ok (.aload_n 0, 1) := by decide +kernel
theorem dX4_smallest_18 : decode cX4_smallest 18 = .ok (.iload_n 1, 1) := by decide +kernel
theorem dX4_smallest_19 : decode cX4_smallest 19 = .ok (.invokevirtual 57, 3) := by decide +kernel
theorem dX4_smallest_22 : decode cX4_smallest 22 = .ok (.if_icmp .ge 5, 3) := by decide +kernel
theorem dX4_smallest_25 : decode cX4_smallest 25 = .ok (.iload_n 2, 1) := by decide +kernel
theorem dX4_smallest_26 : decode cX4_smallest 26 = .ok (.istore_n 1, 1) := by decide +kernel
theorem dX4_smallest_27 : decode cX4_smallest 27 = .ok (.iinc 2 1, 3) := by decide +kernel
theorem dX4_smallest_30 : decode cX4_smallest 30 = .ok (.goto (-26), 3) := by decide +kernel
theorem dX4_smallest_33 : decode cX4_smallest 33 = .ok (.iload_n 1, 1) := by decide +kernel
theorem dX4_smallest_34 : decode cX4_smallest 34 = .ok (.ireturn, 1) := by decide +kernel
theorem dX4_rise_0 : decode cX4_rise 0 = .ok (.aload_n 0, 1) := by decide +kernel
theorem dX4_rise_1 : decode cX4_rise 1 = .ok (.getfield 21, 3) := by decide +kernel
theorem dX4_rise_4 : decode cX4_rise 4 = .ok (.iload_n 1, 1) := by decide +kernel
theorem dX4_rise_5 : decode cX4_rise 5 = .ok (.iaload, 1) := by decide +kernel
theorem dX4_rise_6 : decode cX4_rise 6 = .ok (.i2l, 1) := by decide +kernel
theorem dX4_rise_7 : decode cX4_rise 7 = .ok (.aload_n 0, 1) := by decide +kernel
theorem dX4_rise_8 : decode cX4_rise 8 = .ok (.iload_n 1, 1) := by decide +kernel
theorem dX4_rise_9 : decode cX4_rise 9 = .ok (.iconst 1, 1) := by decide +kernel
theorem dX4_rise_10 : decode cX4_rise 10 = .ok (.iadd, 1) := by decide +kernel
theorem dX4_rise_11 : decode cX4_rise 11 = .ok (.invokevirtual 57, 3) := by decide +kernel
theorem dX4_rise_14 : decode cX4_rise 14 = .ok (.i2l, 1) := by decide +kernel
theorem dX4_rise_15 : decode cX4_rise 15 = .ok (.lmul, 1) := by decide +kernel
theorem dX4_rise_16 : decode cX4_rise 16 = .ok (.aload_n 0, 1) := by decide +kernel
theorem dX4_rise_17 : decode cX4_rise 17 = .ok (.getfield 21, 3) := by decide +kernel
theorem dX4_rise_20 : decode cX4_rise 20 = .ok (.iload_n 1, 1) := by decide +kernel
theorem dX4_rise_21 : decode cX4_rise 21 = .ok (.iconst 1, 1) := by decide +kernel
theorem dX4_rise_22 : decode cX4_rise 22 = .ok (.iadd, 1) := by decide +kernel
theorem dX4_rise_23 : decode cX4_rise 23 = .ok (.iaload, 1) := by decide +kernel
theorem dX4_rise_24 : decode cX4_rise 24 = .ok (.i2l, 1) := by decide +kernel
theorem dX4_rise_25 : decode cX4_rise 25 = .ok (.aload_n 0, 1) := by decide +kernel
theorem dX4_rise_26 : decode cX4_rise 26 = .ok (.iload_n 1, 1) := by decide +kernel
theorem dX4_rise_27 : decode cX4_rise 27 = .ok (.invokevirtual 57, 3) := by decide +kernel
theorem dX4_rise_30 : decode cX4_rise 30 = .ok (.i2l, 1) := by decide +kernel
theorem dX4_rise_31 : decode cX4_rise 31 = .ok (.lmul, 1) := by decide +kernel
theorem dX4_rise_32 : decode cX4_rise 32 = .ok (.lsub, 1) := by decide +kernel
theorem dX4_rise_33 : decode cX4_rise 33 = .ok (.invokestatic 83, 3) := by decide +kernel
theorem dX4_rise_36 : decode cX4_rise 36 = .ok (.lreturn, 1) := by decide +kernel
theorem dX4_isLowerNearer_0 : decode cX4_isLowerNearer 0 = .ok (.iload_n 1, 1) := by decide +kernel
theorem dX4_isLowerNearer_1 : decode cX4_isLowerNearer 1 = .ok (.ifCond .ne 5, 3) := by decide +kernel
theorem dX4_isLowerNearer_4 : decode cX4_isLowerNearer 4 = .ok (.iconst 0, 1) := by decide +kernel
theorem dX4_isLowerNearer_5 : decode cX4_isLowerNearer 5 = .ok (.ireturn, 1) := by decide +kernel
theorem dX4_isLowerNearer_6 : decode cX4_isLowerNearer 6 = .ok (.iload_n 1, 1) := by decide +kernel
theorem dX4_isLowerNearer_7 : decode cX4_isLowerNearer 7 = .ok (.aload_n 0, 1) := by decide +kernel
theorem dX4_isLowerNearer_8 : decode cX4_isLowerNearer 8 = .ok (.getfield 27, 3) := by decide +kernel
theorem dX4_isLowerNearer_11 : decode cX4_isLowerNearer 11 = .ok (.iconst 1, 1) := by decide +kernel
theorem dX4_isLowerNearer_12 : decode cX4_isLowerNearer 12 = .ok (.isub, 1) := by decide +kernel
theorem dX4_isLowerNearer_13 : decode cX4_isLowerNearer 13 = .ok (.if_icmp .ne 5, 3) := by decide +kernel
theorem dX4_isLowerNearer_16 : decode cX4_isLowerNearer 16 = .ok (.iconst 1, 1) := by decide +kernel
theorem dX4_isLowerNearer_17 : decode cX4_isLowerNearer 17 = .ok (.ireturn, 1) := by decide +kernel
theorem dX4_isLowerNearer_18 : decode cX4_isLowerNearer 18 = .ok (.aload_n 0, 1) := by decide +kernel
theorem dX4_isLowerNearer_19 : decode cX4_isLowerNearer 19 = .ok (.iload_n 1, 1) := by decide +kernel
theorem dX4_isLowerNearer_20 : decode cX4_isLowerNearer 20 = .ok (.iconst 1, 1) := by decide +kernel
theorem dX4_isLowerNearer_21 : decode cX4_isLowerNearer 21 = .ok (.isub, 1) := by decide +kernel
theorem dX4_isLowerNearer_22 : decode cX4_isLowerNearer 22 = .ok (.invokevirtual 80, 3) := by decide +kernel
theorem dX4_isLowerNearer_25 : decode cX4_isLowerNearer 25 = .ok (.aload_n 0, 1) := by decide +kernel
theorem dX4_isLowerNearer_26 : decode cX4_isLowerNearer 26 = .ok (.iload_n 1, 1) := by decide +kernel
theorem dX4_isLowerNearer_27 : decode cX4_isLowerNearer 27 = .ok (.iconst 1, 1) := by decide +kernel
theorem dX4_isLowerNearer_28 : decode cX4_isLowerNearer 28 = .ok (.iadd, 1) := by decide +kernel
theorem dX4_isLowerNearer_29 : decode cX4_isLowerNearer 29 = .ok (.invokevirtual 57, 3) := by decide +kernel
theorem dX4_isLowerNearer_32 : decode cX4_isLowerNearer 32 = .ok (.i2l, 1) := by decide +kernel
theorem dX4_isLowerNearer_33 : decode cX4_isLowerNearer 33 = .ok (.lmul, 1) := by decide +kernel
theorem dX4_isLowerNearer_34 : decode cX4_isLowerNearer 34 = .ok (.aload_n 0, 1) := by decide +kernel
theorem dX4_isLowerNearer_35 : decode cX4_isLowerNearer 35 = .ok (.iload_n 1, 1) := by decide +kernel
theorem dX4_isLowerNearer_36 : decode cX4_isLowerNearer 36 = .ok (.invokevirtual 80, 3) := by decide +kernel
theorem dX4_isLowerNearer_39 : decode cX4_isLowerNearer 39 = .ok (.aload_n 0, 1) := by decide +kernel
theorem dX4_isLowerNearer_40 : decode cX4_isLowerNearer 40 = .ok (.iload_n 1, 1) := by decide +kernel
theorem dX4_isLowerNearer_41 : decode cX4_isLowerNearer 41 = .ok (.iconst 1, 1) := by decide +kernel
theorem dX4_isLowerNearer_42 : decode cX4_isLowerNearer 42 = .ok (.isub, 1) := by decide +kernel
theorem dX4_isLowerNearer_43 : decode cX4_isLowerNearer 43 = .ok (.invokevirtual 57, 3) := by decide +kernel
theorem dX4_isLowerNearer_46 : decode cX4_isLowerNearer 46 = .ok (.i2l, 1) := by decide +kernel
theorem dX4_isLowerNearer_47 : decode cX4_isLowerNearer 47 = .ok (.lmul, 1) := by decide +kernel
theorem dX4_isLowerNearer_48 : decode cX4_isLowerNearer 48 = .ok (.lcmp, 1) := by decide +kernel
theorem dX4_isLowerNearer_49 : decode cX4_isLowerNearer 49 = .ok (.ifCond .gt 7, 3) := by decide +kernel
theorem dX4_isLowerNearer_52 : decode cX4_isLowerNearer 52 = .ok (.iconst 1, 1) := by decide +kernel
theorem dX4_isLowerNearer_53 : decode cX4_isLowerNearer 53 = .ok (.goto 4, 3) := by decide +kernel
theorem dX4_isLowerNearer_56 : decode cX4_isLowerNearer 56 = .ok (.iconst 0, 1) := by decide +kernel
theorem dX4_isLowerNearer_57 : decode cX4_isLowerNearer 57 = .ok (.ireturn, 1) := by decide +kernel
theorem dX4_joinSmall_0 : decode cX4_joinSmall 0 = .ok (.aload_n 0, 1) := by decide +kernel
theorem dX4_joinSmall_1 : decode cX4_joinSmall 1 = .ok (.getfield 27, 3) := by decide +kernel
theorem dX4_joinSmall_4 : decode cX4_joinSmall 4 = .ok (.istore_n 2, 1) := by decide +kernel
theorem dX4_joinSmall_5 : decode cX4_joinSmall 5 = .ok (.iload_n 2, 1) := by decide +kernel
theorem dX4_joinSmall_6 : decode cX4_joinSmall 6 = .ok (.iconst 2, 1) := by decide +kernel
theorem dX4_joinSmall_7 : decode cX4_joinSmall 7 = .ok (.if_icmp .lt 43, 3) := by decide +kernel
theorem dX4_joinSmall_10 : decode cX4_joinSmall 10 = .ok (.aload_n 0, 1) := by decide +kernel
theorem dX4_joinSmall_11 : decode cX4_joinSmall 11 = .ok (.invokevirtual 53, 3) := by decide +kernel
theorem dX4_joinSmall_14 : decode cX4_joinSmall 14 = .ok (.istore_n 3, 1) := by decide +kernel
theorem dX4_joinSmall_15 : decode cX4_joinSmall 15 = .ok (.aload_n 0, 1) := by decide +kernel
theorem dX4_joinSmall_16 : decode cX4_joinSmall 16 = .ok (.iload_n 3, 1) := by decide +kernel
theorem dX4_joinSmall_17 : decode cX4_joinSmall 17 = .ok (.invokevirtual 57, 3) := by decide +kernel
theorem dX4_joinSmall_20 : decode cX4_joinSmall 20 = .ok (.iload_n 1, 1) := by decide +kernel
theorem dX4_joinSmall_21 : decode cX4_joinSmall 21 = .ok (.if_icmp .lt 4, 3) := by decide +kernel
theorem dX4_joinSmall_24 : decode cX4_joinSmall 24 = .ok (.return_, 1) := by decide +kernel
theorem dX4_joinSmall_25 : decode cX4_joinSmall 25 = .ok (.aload_n 0, 1) := by decide +kernel
theorem dX4_joinSmall_26 : decode cX4_joinSmall 26 = .ok (.aload_n 0, 1) := by decide +kernel
theorem dX4_joinSmall_27 : decode cX4_joinSmall 27 = .ok (.iload_n 3, 1) := by decide +kernel
theorem dX4_joinSmall_28 : decode cX4_joinSmall 28 = .ok (.invokevirtual 61, 3) := by decide +kernel
theorem dX4_joinSmall_31 : decode cX4_joinSmall 31 = .ok (.ifCond .eq 9, 3) := by decide +kernel
theorem dX4_joinSmall_34 : decode cX4_joinSmall 34 = .ok (.iload_n 3, 1) := by decide +kernel
theorem dX4_joinSmall_35 : decode cX4_joinSmall 35 = .ok (.iconst 1, 1) := by decide +kernel
theorem dX4_joinSmall_36 : decode cX4_joinSmall 36 = .ok (.isub, 1) := by decide +kernel
theorem dX4_joinSmall_37 : decode cX4_joinSmall 37 = .ok (.goto 4, 3) := by decide +kernel
theorem dX4_joinSmall_40 : decode cX4_joinSmall 40 = .ok (.iload_n 3, 1) := by decide +kernel
theorem dX4_joinSmall_41 : decode cX4_joinSmall 41 = .ok (.invokevirtual 43, 3) := by decide +kernel
theorem dX4_joinSmall_44 : decode cX4_joinSmall 44 = .ok (.iinc 2 (-1), 3) := by decide +kernel
theorem dX4_joinSmall_47 : decode cX4_joinSmall 47 = .ok (.goto (-42), 3) := by decide +kernel
theorem dX4_joinSmall_50 : decode cX4_joinSmall 50 = .ok (.return_, 1) := by decide +kernel
theorem dX4_growthAbove_0 : decode cX4_growthAbove 0 = .ok (.aload_n 0, 1) := by decide +kernel
theorem dX4_growthAbove_1 : decode cX4_growthAbove 1 = .ok (.iload_n 1, 1) := by decide +kernel
theorem dX4_growthAbove_2 : decode cX4_growthAbove 2 = .ok (.invokevirtual 80, 3) := by decide +kernel
theorem dX4_growthAbove_5 : decode cX4_growthAbove 5 = .ok (.aload_n 0, 1) := by decide +kernel
theorem dX4_growthAbove_6 : decode cX4_growthAbove 6 = .ok (.iload_n 1, 1) := by decide +kernel
theorem dX4_growthAbove_7 : decode cX4_growthAbove 7 = .ok (.invokevirtual 80, 3) := by decide +kernel
theorem dX4_growthAbove_10 : decode cX4_growthAbove 10 = .ok (.lmul, 1) := by decide +kernel
theorem dX4_growthAbove_11 : decode cX4_growthAbove 11 = .ok (.lreturn, 1) := by decide +kernel
theorem dX4_growthBelow_0 : decode cX4_growthBelow 0 = .ok (.aload_n 0, 1) := by decide +kernel
theorem dX4_growthBelow_1 : decode cX4_growthBelow 1 = .ok (.iload_n 1, 1) := by decide +kernel
theorem dX4_growthBelow_2 : decode cX4_growthBelow 2 = .ok (.invokevirtual 57, 3) := by decide +kernel
theorem dX4_growthBelow_5 : decode cX4_growthBelow 5 = .ok (.i2l, 1) := by decide +kernel
theorem dX4_growthBelow_6 : decode cX4_growthBelow 6 = .ok (.aload_n 0, 1) := by decide +kernel
theorem dX4_growthBelow_7 : decode cX4_growthBelow 7 = .ok (.iload_n 1, 1) := by decide +kernel
theorem dX4_growthBelow_8 : decode cX4_growthBelow 8 = .ok (.iconst 1, 1) := by decide +kernel
theorem dX4_growthBelow_9 : decode cX4_growthBelow 9 = .ok (.iadd, 1) := by decide +kernel
theorem dX4_growthBelow_10 : decode cX4_growthBelow 10 = .ok (.invokevirtual 57, 3) := by decide +kernel
theorem dX4_growthBelow_13 : decode cX4_growthBelow 13 = .ok (.i2l, 1) := by decide +kernel
theorem dX4_growthBelow_14 : decode cX4_growthBelow 14 = .ok (.lmul, 1) := by decide +kernel
theorem dX4_growthBelow_15 : decode cX4_growthBelow 15 = .ok (.aload_n 0, 1) := by decide +kernel
theorem dX4_growthBelow_16 : decode cX4_growthBelow 16 = .ok (.iload_n 1, 1) := by decide +kernel
theorem dX4_growthBelow_17 : decode cX4_growthBelow 17 = .ok (.invokevirtual 57, 3) := by decide +kernel
theorem dX4_growthBelow_20 : decode cX4_growthBelow 20 = .ok (.aload_n 0, 1) := by decide +kernel
theorem dX4_growthBelow_21 : decode cX4_growthBelow 21 = .ok (.iload_n 1, 1) := by decide +kernel
theorem dX4_growthBelow_22 : decode cX4_growthBelow 22 = .ok (.iconst 1, 1) := by decide +kernel
theorem dX4_growthBelow_23 : decode cX4_growthBelow 23 = .ok (.iadd, 1) := by decide +kernel
theorem dX4_growthBelow_24 : decode cX4_growthBelow 24 = .ok (.invokevirtual 57, 3) := by decide +kernel
theorem dX4_growthBelow_27 : decode cX4_growthBelow 27 = .ok (.iadd, 1) := by decide +kernel
theorem dX4_growthBelow_28 : decode cX4_growthBelow 28 = .ok (.i2l, 1) := by decide +kernel
theorem dX4_growthBelow_29 : decode cX4_growthBelow 29 = .ok (.lmul, 1) := by decide +kernel
theorem dX4_growthBelow_30 : decode cX4_growthBelow 30 = .ok (.lreturn, 1) := by decide +kernel
theorem dX5_isLess_0 : decode cX5_isLess 0 = .ok (.lload_n 0, 1) := by decide +kernel
theorem dX5_isLess_1 : decode cX5_isLess 1 = .ok (.lstore 8, 2) := by decide +kernel
theorem dX5_isLess_3 : decode cX5_isLess 3 = .ok (.lload_n 2, 1) := by decide +kernel
theorem dX5_isLess_4 : decode cX5_isLess 4 = .ok (.lstore 10, 2) := by decide +kernel
theorem dX5_isLess_6 : decode cX5_isLess 6 = .ok (.lload 4, 2) := by decide +kernel
theorem dX5_isLess_8 : decode cX5_isLess 8 = .ok (.lstore 12, 2) := by decide +kernel
theorem dX5_isLess_10 : decode cX5_isLess 10 = .ok (.lload 6, 2) := by decide +kernel
theorem dX5_isLess_12 : decode cX5_isLess 12 = .ok (.lstore 14, 2) := by decide +kernel
theorem dX5_isLess_14 : decode cX5_isLess 14 = .ok (.iconst 0, 1) := by decide +kernel
theorem dX5_isLess_15 : decode cX5_isLess 15 = .ok (.istore 16, 2) := by decide +kernel
theorem dX5_isLess_17 : decode cX5_isLess 17 = .ok (.iconst 0, 1) := by decide +kernel
theorem dX5_isLess_18 : decode cX5_isLess 18 = .ok (.istore 17, 2) := by decide +kernel
theorem dX5_isLess_20 : decode cX5_isLess 20 = .ok (.iload 17, 2) := by decide +kernel
theorem dX5_isLess_22 : decode cX5_isLess 22 = .ok (.bipush 100, 2) := by decide +kernel
theorem dX5_isLess_24 : decode cX5_isLess 24 = .ok (.if_icmp .ge 128, 3) := by decide +kernel
theorem dX5_isLess_27 : decode cX5_isLess 27 = .ok (.lload 10, 2) := by decide +kernel
theorem dX5_isLess_29 : decode cX5_isLess 29 = .ok (.lconst 0, 1) := by decide +kernel
theorem dX5_isLess_30 : decode cX5_isLess 30 = .ok (.lcmp, 1) := by decide +kernel
theorem dX5_isLess_31 : decode cX5_isLess 31 = .ok (.ifCond .eq 121, 3) := by decide +kernel
theorem dX5_isLess_34 : decode cX5_isLess 34 = .ok (.lload 14, 2) := by decide +kernel
theorem dX5_isLess_36 : decode cX5_isLess 36 = .ok (.lconst 0, 1) := by decide +kernel
theorem dX5_isLess_37 : decode cX5_isLess 37 = .ok (.lcmp, 1) := by decide +kernel
theorem dX5_isLess_38 : decode cX5_isLess 38 = .ok (.ifCond .eq 114, 3) := by decide +kernel
theorem dX5_isLess_41 : decode cX5_isLess 41 = .ok (.lload 8, 2) := by decide +kernel
theorem dX5_isLess_43 : decode cX5_isLess 43 = .ok (.lload 10, 2) := by decide +kernel
theorem dX5_isLess_45 : decode cX5_isLess 45 = .ok (.ldiv, 1) := by decide +kernel
theorem dX5_isLess_46 : decode cX5_isLess 46 = .ok (.lstore 18, 2) := by decide +kernel
theorem dX5_isLess_48 : decode cX5_isLess 48 = .ok (.lload 12, 2) := by decide +kernel
theorem dX5_isLess_50 : decode cX5_isLess 50 = .ok (.lload 14, 2) := by decide +kernel
theorem dX5_isLess_52 : decode cX5_isLess 52 = .ok (.ldiv, 1) := by decide +kernel
theorem dX5_isLess_53 : decode cX5_isLess 53 = .ok (.lstore 20, 2) := by decide +kernel
theorem dX5_isLess_55 : decode cX5_isLess 55 = .ok (.lload 18, 2) := by decide +kernel
theorem dX5_isLess_57 : decode cX5_isLess 57 = .ok (.lload 20, 2) := by decide +kernel
theorem dX5_isLess_59 : decode cX5_isLess 59 = .ok (.lcmp, 1) := by decide +kernel
theorem dX5_isLess_60 : decode cX5_isLess 60 = .ok (.ifCond .eq 38, 3) := by decide +kernel
theorem dX5_isLess_63 : decode cX5_isLess 63 = .ok (.iload 16, 2) := by decide +kernel
theorem dX5_isLess_65 : decode cX5_isLess 65 = .ok (.ifCond .eq 19, 3) := by decide +kernel
theorem dX5_isLess_68 : decode cX5_isLess 68 = .ok (.lload 18, 2) := by decide +kernel
theorem dX5_isLess_70 : decode cX5_isLess 70 = .ok (.lload 20, 2) := by decide +kernel
theorem dX5_isLess_72 : decode cX5_isLess 72 = .ok (.lcmp, 1) := by decide +kernel
theorem dX5_isLess_73 : decode cX5_isLess 73 = .ok (.ifCond .le 7, 3) := by decide +kernel
theorem dX5_isLess_76 : decode cX5_isLess 76 = .ok (.iconst 1, 1) := by decide +kernel
theorem dX5_isLess_77 : decode cX5_isLess 77 = .ok (.goto 20, 3) := by decide +kernel
theorem dX5_isLess_80 : decode cX5_isLess 80 = .ok (.iconst 0, 1) := by decide +kernel
theorem dX5_isLess_81 : decode cX5_isLess 81 = .ok (.goto 16, 3) := by decide +kernel
theorem dX5_isLess_84 : decode cX5_isLess 84 = .ok (.lload 18, 2) := by decide +kernel
theorem dX5_isLess_86 : decode cX5_isLess 86 = .ok (.lload 20, 2) := by decide +kernel
theorem dX5_isLess_88 : decode cX5_isLess 88 = .ok (.lcmp, 1) := by decide +kernel
theorem dX5_isLess_89 : decode cX5_isLess 89 = .ok (.ifCond .ge 7, 3) := by decide +kernel
theorem dX5_isLess_92 : decode cX5_isLess 92 = .ok (.iconst 1, 1) := by decide +kernel
theorem dX5_isLess_93 : decode cX5_isLess 93 = .ok (.goto 4, 3) := by decide +kernel
theorem dX5_isLess_96 : decode cX5_isLess 96 = .ok (.iconst 0, 1) := by decide +kernel
theorem dX5_isLess_97 : decode cX5_isLess 97 = .ok (.ireturn, 1) := by decide +kernel
theorem dX5_isLess_98 : decode cX5_isLess 98 = .ok (.lload 8, 2) := by decide +kernel
theorem dX5_isLess_100 : decode cX5_isLess 100 = .ok (.lload 18, 2) := by decide +kernel
theorem dX5_isLess_102 : decode cX5_isLess 102 = .ok (.lload 10, 2) := by decide +kernel
theorem dX5_isLess_104 : decode cX5_isLess 104 = .ok (.lmul, 1) := by decide +kernel
theorem dX5_isLess_105 : decode cX5_isLess 105 = .ok (.lsub, 1) := by decide +kernel
theorem dX5_isLess_106 : decode cX5_isLess 106 = .ok (.lstore 22, 2) := by decide +kernel
theorem dX5_isLess_108 : decode cX5_isLess 108 = .ok (.lload 12, 2) := by decide +kernel
theorem dX5_isLess_110 : decode cX5_isLess 110 = .ok (.lload 20, 2) := by decide +kernel
theorem dX5_isLess_112 : decode cX5_isLess 112 = .ok (.lload 14, 2) := by decide +kernel
theorem dX5_isLess_114 : decode cX5_isLess 114 = .ok (.lmul, 1) := by decide +kernel
theorem dX5_isLess_115 : decode cX5_isLess 115 = .ok (.lsub, 1) := by decide +kernel
theorem dX5_isLess_116 : decode cX5_isLess 116 = .ok (.lstore 24, 2) := by decide +kernel
theorem dX5_isLess_118 : decode cX5_isLess 118 = .ok (.lload 10, 2) := by decide +kernel
theorem dX5_isLess_120 : decode cX5_isLess 120 = .ok (.lstore 8, 2) := by decide +kernel
theorem dX5_isLess_122 : decode cX5_isLess 122 = .ok (.lload 22, 2) := by decide +kernel
theorem dX5_isLess_124 : decode cX5_isLess 124 = .ok (.lstore 10, 2) := by decide +kernel
theorem dX5_isLess_126 : decode cX5_isLess 126 = .ok (.lload 14, 2) := by decide +kernel
theorem dX5_isLess_128 : decode cX5_isLess 128 = .ok (.lstore 12, 2) := by decide +kernel
theorem dX5_isLess_130 : decode cX5_isLess 130 = .ok (.lload 24, 2) := by decide +kernel
theorem dX5_isLess_132 : decode cX5_isLess 132 = .ok (.lstore 14, 2) := by decide +kernel
theorem dX5_isLess_134 : decode cX5_isLess 134 = .ok (.iload 16, 2) := by decide +kernel
theorem dX5_isLess_136 : decode cX5_isLess 136 = .ok (.ifCond .ne 7, 3) := by decide +kernel
theorem dX5_isLess_139 : decode cX5_isLess 139 = .ok (.iconst 1, 1) := by decide +kernel
theorem dX5_isLess_140 : decode cX5_isLess 140 = .ok (.goto 4, 3) := by decide +kernel
theorem dX5_isLess_143 : decode cX5_isLess 143 = .ok (.iconst 0, 1) := by decide +kernel
theorem dX5_isLess_144 : decode cX5_isLess 144 = .ok (.istore 16, 2) := by decide +kernel
theorem dX5_isLess_146 : decode cX5_isLess 146 = .ok (.iinc 17 1, 3) := by decide +kernel
theorem dX5_isLess_149 : decode cX5_isLess 149 = .ok (.goto (-129), 3) := by decide +kernel
theorem dX5_isLess_152 : decode cX5_isLess 152 = .ok (.lload 14, 2) := by decide +kernel
theorem dX5_isLess_154 : decode cX5_isLess 154 = .ok (.lconst 0, 1) := by decide +kernel
theorem dX5_isLess_155 : decode cX5_isLess 155 = .ok (.lcmp, 1) := by decide +kernel
theorem dX5_isLess_156 : decode cX5_isLess 156 = .ok (.ifCond .ne 14, 3) := by decide +kernel
theorem dX5_isLess_159 : decode cX5_isLess 159 = .ok (.lload 10, 2) := by decide +kernel
theorem dX5_isLess_161 : decode cX5_isLess 161 = .ok (.lconst 0, 1) := by decide +kernel
theorem dX5_isLess_162 : decode cX5_isLess 162 = .ok (.lcmp, 1) := by decide +kernel
theorem dX5_isLess_163 : decode cX5_isLess 163 = .ok (.ifCond .eq 7, 3) := by decide +kernel
theorem dX5_isLess_166 : decode cX5_isLess 166 = .ok (.iconst 1, 1) := by decide +kernel
theorem dX5_isLess_167 : decode cX5_isLess 167 = .ok (.goto 4, 3) := by decide +kernel
theorem dX5_isLess_170 : decode cX5_isLess 170 = .ok (.iconst 0, 1) := by decide +kernel
theorem dX5_isLess_171 : decode cX5_isLess 171 = .ok (.istore 17, 2) := by decide +kernel
theorem dX5_isLess_173 : decode cX5_isLess 173 = .ok (.lload 10, 2) := by decide +kernel
theorem dX5_isLess_175 : decode cX5_isLess 175 = .ok (.lconst 0, 1) := by decide +kernel
theorem dX5_isLess_176 : decode cX5_isLess 176 = .ok (.lcmp, 1) := by decide +kernel
theorem dX5_isLess_177 : decode cX5_isLess 177 = .ok (.ifCond .ne 14, 3) := by decide +kernel
theorem dX5_isLess_180 : decode cX5_isLess 180 = .ok (.lload 14, 2) := by decide +kernel
theorem dX5_isLess_182 : decode cX5_isLess 182 = .ok (.lconst 0, 1) := by decide +kernel
theorem dX5_isLess_183 : decode cX5_isLess 183 = .ok (.lcmp, 1) := by decide +kernel
theorem dX5_isLess_184 : decode cX5_isLess 184 = .ok (.ifCond .eq 7, 3) := by decide +kernel
theorem dX5_isLess_187 : decode cX5_isLess 187 = .ok (.iconst 1, 1) := by decide +kernel
theorem dX5_isLess_188 : decode cX5_isLess 188 = .ok (.goto 4, 3) := by decide +kernel
theorem dX5_isLess_191 : decode cX5_isLess 191 = .ok (.iconst 0, 1) := by decide +kernel
theorem dX5_isLess_192 : decode cX5_isLess 192 = .ok (.istore 18, 2) := by decide +kernel
theorem dX5_isLess_194 : decode cX5_isLess 194 = .ok (.iload 16, 2) := by decide +kernel
theorem dX5_isLess_196 : decode cX5_isLess 196 = .ok (.ifCond .eq 8, 3) := by decide +kernel
theorem dX5_isLess_199 : decode cX5_isLess 199 = .ok (.iload 18, 2) := by decide +kernel
theorem dX5_isLess_201 : decode cX5_isLess 201 = .ok (.goto 5, 3) := by decide +kernel
theorem dX5_isLess_204 : decode cX5_isLess 204 = .ok (.iload 17, 2) := by decide +kernel
theorem dX5_isLess_206 : decode cX5_isLess 206 = .ok (.ireturn, 1) := by decide +kernel
theorem dX4_cheapest_0 : decode cX4_cheapest 0 = .ok (.iconst 0, 1) := by decide +kernel
theorem dX4_cheapest_1 : decode cX4_cheapest 1 = .ok (.istore_n 1, 1) := by decide +kernel
theorem dX4_cheapest_2 : decode cX4_cheapest 2 = .ok (.iconst 1, 1) := by decide +kernel
theorem dX4_cheapest_3 : decode cX4_cheapest 3 = .ok (.istore_n 2, 1) := by decide +kernel
theorem dX4_cheapest_4 : decode cX4_cheapest 4 = .ok (.iload_n 2, 1) := by decide +kernel
theorem dX4_cheapest_5 : decode cX4_cheapest 5 = .ok (.aload_n 0, 1) := by decide +kernel
theorem dX4_cheapest_6 : decode cX4_cheapest 6 = .ok (.getfield 27, 3) := by decide +kernel
theorem dX4_cheapest_9 : decode cX4_cheapest 9 = .ok (.iconst 1, 1) := by decide +kernel
theorem dX4_cheapest_10 : decode cX4_cheapest 10 = .ok (.isub, 1) := by decide +kernel
theorem dX4_cheapest_11 : decode cX4_cheapest 11 = .ok (.if_icmp .ge 37, 3) := by decide +kernel
theorem dX4_cheapest_14 : decode cX4_cheapest 14 = .ok (.aload_n 0, 1) := by decide +kernel
theorem dX4_cheapest_15 : decode cX4_cheapest 15 = .ok (.iload_n 2, 1) := by decide +kernel
theorem dX4_cheapest_16 : decode cX4_cheapest 16 = .ok (.invokevirtual 67, 3) := by decide +kernel
theorem dX4_cheapest_19 : decode cX4_cheapest 19 = .ok (.aload_n 0, 1) := by decide +kernel
theorem dX4_cheapest_20 : decode cX4_cheapest 20 = .ok (.iload_n 2, 1) := by decide +kernel
theorem dX4_cheapest_21 : decode cX4_cheapest 21 = .ok (.invokevirtual 71, 3) := by decide +kernel
theorem dX4_cheapest_24 : decode cX4_cheapest 24 = .ok (.aload_n 0, 1) := by decide +kernel
theorem dX4_cheapest_25 : decode cX4_cheapest 25 = .ok (.iload_n 1, 1) := by decide +kernel
theorem dX4_cheapest_26 : decode cX4_cheapest 26 = .ok (.invokevirtual 67, 3) := by decide +kernel
theorem dX4_cheapest_29 : decode cX4_cheapest 29 = .ok (.aload_n 0, 1) := by decide +kernel
theorem dX4_cheapest_30 : decode cX4_cheapest 30 = .ok (.iload_n 1, 1) := by decide +kernel
theorem dX4_cheapest_31 : decode cX4_cheapest 31 = .ok (.invokevirtual 71, 3) := by decide +kernel
theorem dX4_cheapest_34 : decode cX4_cheapest 34 = .ok (.invokestatic 74, 3) := by decide +kernel
theorem dX4_cheapest_37 : decode cX4_cheapest 37 = .ok (.ifCond .eq 5, 3) := by decide +kernel
theorem dX4_cheapest_40 : decode cX4_cheapest 40 = .ok (.iload_n 2, 1) := by decide +kernel
theorem dX4_cheapest_41 : decode cX4_cheapest 41 = .ok (.istore_n 1, 1) := by decide +kernel
theorem dX4_cheapest_42 : decode cX4_cheapest 42 = .ok (.iinc 2 1, 3) := by decide +kernel
theorem dX4_cheapest_45 : decode cX4_cheapest 45 = .ok (.goto (-41), 3) := by decide +kernel
theorem dX4_cheapest_48 : decode cX4_cheapest 48 = .ok (.iload_n 1, 1) := by decide +kernel
theorem dX4_cheapest_49 : decode cX4_cheapest 49 = .ok (.ireturn, 1) := by decide +kernel
theorem dX4_joinMany_0 : decode cX4_joinMany 0 = .ok (.aload_n 0, 1) := by decide +kernel
theorem dX4_joinMany_1 : decode cX4_joinMany 1 = .ok (.getfield 27, 3) := by decide +kernel
theorem dX4_joinMany_4 : decode cX4_joinMany 4 = .ok (.istore_n 2, 1) := by decide +kernel
theorem dX4_joinMany_5 : decode cX4_joinMany 5 = .ok (.iload_n 2, 1) := by decide +kernel
theorem dX4_joinMany_6 : decode cX4_joinMany 6 = .ok (.iconst 2, 1) := by decide +kernel
theorem dX4_joinMany_7 : decode cX4_joinMany 7 = .ok (.if_icmp .lt 22, 3) := by decide +kernel
theorem dX4_joinMany_10 : decode cX4_joinMany 10 = .ok (.iload_n 2, 1) := by decide +kernel
theorem dX4_joinMany_11 : decode cX4_joinMany 11 = .ok (.iload_n 1, 1) := by decide +kernel
theorem dX4_joinMany_12 : decode cX4_joinMany 12 = .ok (.if_icmp .le 17, 3) := by decide +kernel
theorem dX4_joinMany_15 : decode cX4_joinMany 15 = .ok (.aload_n 0, 1) := by decide +kernel
theorem dX4_joinMany_16 : decode cX4_joinMany 16 = .ok (.aload_n 0, 1) := by decide +kernel
theorem dX4_joinMany_17 : decode cX4_joinMany 17 = .ok (.invokevirtual 64, 3) := by decide +kernel
theorem dX4_joinMany_20 : decode cX4_joinMany 20 = .ok (.invokevirtual 43, 3) := by decide +kernel
theorem dX4_joinMany_23 : decode cX4_joinMany 23 = .ok (.iinc 2 (-1), 3) := by decide +kernel
theorem dX4_joinMany_26 : decode cX4_joinMany 26 = .ok (.goto (-21), 3) := by decide +kernel
theorem dX4_joinMany_29 : decode cX4_joinMany 29 = .ok (.return_, 1) := by decide +kernel
theorem dX4_goodBelow_0 : decode cX4_goodBelow 0 = .ok (.iconst 0, 1) := by decide +kernel
theorem dX4_goodBelow_1 : decode cX4_goodBelow 1 = .ok (.istore_n 2, 1) := by decide +kernel
theorem dX4_goodBelow_2 : decode cX4_goodBelow 2 = .ok (.iconst 0, 1) := by decide +kernel
theorem dX4_goodBelow_3 : decode cX4_goodBelow 3 = .ok (.istore_n 3, 1) := by decide +kernel
theorem dX4_goodBelow_4 : decode cX4_goodBelow 4 = .ok (.iload_n 3, 1) := by decide +kernel
theorem dX4_goodBelow_5 : decode cX4_goodBelow 5 = .ok (.iload_n 1, 1) := by decide +kernel
theorem dX4_goodBelow_6 : decode cX4_goodBelow 6 = .ok (.if_icmp .ge 26, 3) := by decide +kernel
theorem dX4_goodBelow_9 : decode cX4_goodBelow 9 = .ok (.iload_n 3, 1) := by decide +kernel
theorem dX4_goodBelow_10 : decode cX4_goodBelow 10 = .ok (.aload_n 0, 1) := by decide +kernel
theorem dX4_goodBelow_11 : decode cX4_goodBelow 11 = .ok (.getfield 27, 3) := by decide +kernel
theorem dX4_goodBelow_14 : decode cX4_goodBelow 14 = .ok (.if_icmp .ge 18, 3) := by decide +kernel
theorem dX4_goodBelow_17 : decode cX4_goodBelow 17 = .ok (.iload_n 2, 1) := by decide +kernel
theorem dX4_goodBelow_18 : decode cX4_goodBelow 18 = .ok (.aload_n 0, 1) := by decide +kernel
theorem dX4_goodBelow_19 : decode cX4_goodBelow 19 = .ok (.getfield 18, 3) := by decide +kernel
theorem dX4_goodBelow_22 : decode cX4_goodBelow 22 = .ok (.iload_n 3, 1) := by decide +kernel
theorem dX4_goodBelow_23 : decode cX4_goodBelow 23 = .ok (.iaload, 1) := by decide +kernel
theorem dX4_goodBelow_24 : decode cX4_goodBelow 24 = .ok (.iadd, 1) := by decide +kernel
theorem dX4_goodBelow_25 : decode cX4_goodBelow 25 = .ok (.istore_n 2, 1) := by decide +kernel
theorem dX4_goodBelow_26 : decode cX4_goodBelow 26 = .ok (.iinc 3 1, 3) := by decide +kernel
theorem dX4_goodBelow_29 : decode cX4_goodBelow 29 = .ok (.goto (-25), 3) := by decide +kernel
theorem dX4_goodBelow_32 : decode cX4_goodBelow 32 = .ok (.iload_n 2, 1) := by decide +kernel
theorem dX4_goodBelow_33 : decode cX4_goodBelow 33 = .ok (.ireturn, 1) := by decide +kernel
theorem dX4_badBelow_0 : decode cX4_badBelow 0 = .ok (.iconst 0, 1) := by decide +kernel
theorem dX4_badBelow_1 : decode cX4_badBelow 1 = .ok (.istore_n 2, 1) := by decide +kernel
theorem dX4_badBelow_2 : decode cX4_badBelow 2 = .ok (.iconst 0, 1) := by decide +kernel
theorem dX4_badBelow_3 : decode cX4_badBelow 3 = .ok (.istore_n 3, 1) := by decide +kernel
theorem dX4_badBelow_4 : decode cX4_badBelow 4 = .ok (.iload_n 3, 1) := by decide +kernel
theorem dX4_badBelow_5 : decode cX4_badBelow 5 = .ok (.iload_n 1, 1) := by decide +kernel
theorem dX4_badBelow_6 : decode cX4_badBelow 6 = .ok (.if_icmp .ge 26, 3) := by decide +kernel
theorem dX4_badBelow_9 : decode cX4_badBelow 9 = .ok (.iload_n 3, 1) := by decide +kernel
theorem dX4_badBelow_10 : decode cX4_badBelow 10 = .ok (.aload_n 0, 1) := by decide +kernel
theorem dX4_badBelow_11 : decode cX4_badBelow 11 = .ok (.getfield 27, 3) := by decide +kernel
theorem dX4_badBelow_14 : decode cX4_badBelow 14 = .ok (.if_icmp .ge 18, 3) := by decide +kernel
theorem dX4_badBelow_17 : decode cX4_badBelow 17 = .ok (.iload_n 2, 1) := by decide +kernel
theorem dX4_badBelow_18 : decode cX4_badBelow 18 = .ok (.aload_n 0, 1) := by decide +kernel
theorem dX4_badBelow_19 : decode cX4_badBelow 19 = .ok (.getfield 21, 3) := by decide +kernel
theorem dX4_badBelow_22 : decode cX4_badBelow 22 = .ok (.iload_n 3, 1) := by decide +kernel
theorem dX4_badBelow_23 : decode cX4_badBelow 23 = .ok (.iaload, 1) := by decide +kernel
theorem dX4_badBelow_24 : decode cX4_badBelow 24 = .ok (.iadd, 1) := by decide +kernel
theorem dX4_badBelow_25 : decode cX4_badBelow 25 = .ok (.istore_n 2, 1) := by decide +kernel
theorem dX4_badBelow_26 : decode cX4_badBelow 26 = .ok (.iinc 3 1, 3) := by decide +kernel
theorem dX4_badBelow_29 : decode cX4_badBelow 29 = .ok (.goto (-25), 3) := by decide +kernel
theorem dX4_badBelow_32 : decode cX4_badBelow 32 = .ok (.iload_n 2, 1) := by decide +kernel
theorem dX4_badBelow_33 : decode cX4_badBelow 33 = .ok (.ireturn, 1) := by decide +kernel
theorem dX5_lowest_0 : decode cX5_lowest 0 = .ok (.lload_n 0, 1) := by decide +kernel
theorem dX5_lowest_1 : decode cX5_lowest 1 = .ok (.lstore 5, 2) := by decide +kernel
theorem dX5_lowest_3 : decode cX5_lowest 3 = .ok (.lload_n 2, 1) := by decide +kernel
theorem dX5_lowest_4 : decode cX5_lowest 4 = .ok (.lstore 7, 2) := by decide +kernel
theorem dX5_lowest_6 : decode cX5_lowest 6 = .ok (.iconst 0, 1) := by decide +kernel
theorem dX5_lowest_7 : decode cX5_lowest 7 = .ok (.istore 9, 2) := by decide +kernel
theorem dX5_lowest_9 : decode cX5_lowest 9 = .ok (.iload 9, 2) := by decide +kernel
theorem dX5_lowest_11 : decode cX5_lowest 11 = .ok (.bipush 100, 2) := by decide +kernel
theorem dX5_lowest_13 : decode cX5_lowest 13 = .ok (.if_icmp .ge 31, 3) := by decide +kernel
theorem dX5_lowest_16 : decode cX5_lowest 16 = .ok (.lload 7, 2) := by decide +kernel
theorem dX5_lowest_18 : decode cX5_lowest 18 = .ok (.lconst 0, 1) := by decide +kernel
theorem dX5_lowest_19 : decode cX5_lowest 19 = .ok (.lcmp, 1) := by decide +kernel
theorem dX5_lowest_20 : decode cX5_lowest 20 = .ok (.ifCond .eq 24, 3) := by decide +kernel
theorem dX5_lowest_23 : decode cX5_lowest 23 = .ok (.lload 5, 2) := by decide +kernel
theorem dX5_lowest_25 : decode cX5_lowest 25 = .ok (.lload 7, 2) := by decide +kernel
theorem dX5_lowest_27 : decode cX5_lowest 27 = .ok (.lrem, 1) := by decide +kernel
theorem dX5_lowest_28 : decode cX5_lowest 28 = .ok (.lstore 10, 2) := by decide +kernel
theorem dX5_lowest_30 : decode cX5_lowest 30 = .ok (.lload 7, 2) := by decide +kernel
theorem dX5_lowest_32 : decode cX5_lowest 32 = .ok (.lstore 5, 2) := by decide +kernel
theorem dX5_lowest_34 : decode cX5_lowest 34 = .ok (.lload 10, 2) := by decide +kernel
theorem dX5_lowest_36 : decode cX5_lowest 36 = .ok (.lstore 7, 2) := by decide +kernel
theorem dX5_lowest_38 : decode cX5_lowest 38 = .ok (.iinc 9 1, 3) := by decide +kernel
theorem dX5_lowest_41 : decode cX5_lowest 41 = .ok (.goto (-32), 3) := by decide +kernel
theorem dX5_lowest_44 : decode cX5_lowest 44 = .ok (.iload 4, 2) := by decide +kernel
theorem dX5_lowest_46 : decode cX5_lowest 46 = .ok (.ifCond .ne 7, 3) := by decide +kernel
theorem dX5_lowest_49 : decode cX5_lowest 49 = .ok (.lload_n 0, 1) := by decide +kernel
theorem dX5_lowest_50 : decode cX5_lowest 50 = .ok (.goto 4, 3) := by decide +kernel
theorem dX5_lowest_53 : decode cX5_lowest 53 = .ok (.lload_n 2, 1) := by decide +kernel
theorem dX5_lowest_54 : decode cX5_lowest 54 = .ok (.lstore 9, 2) := by decide +kernel
theorem dX5_lowest_56 : decode cX5_lowest 56 = .ok (.lload 5, 2) := by decide +kernel
theorem dX5_lowest_58 : decode cX5_lowest 58 = .ok (.lconst 0, 1) := by decide +kernel
theorem dX5_lowest_59 : decode cX5_lowest 59 = .ok (.lcmp, 1) := by decide +kernel
theorem dX5_lowest_60 : decode cX5_lowest 60 = .ok (.ifCond .ne 8, 3) := by decide +kernel
theorem dX5_lowest_63 : decode cX5_lowest 63 = .ok (.lload 9, 2) := by decide +kernel
theorem dX5_lowest_65 : decode cX5_lowest 65 = .ok (.goto 8, 3) := by decide +kernel
theorem dX5_lowest_68 : decode cX5_lowest 68 = .ok (.lload 9, 2) := by decide +kernel
theorem dX5_lowest_70 : decode cX5_lowest 70 = .ok (.lload 5, 2) := by decide +kernel
theorem dX5_lowest_72 : decode cX5_lowest 72 = .ok (.ldiv, 1) := by decide +kernel
theorem dX5_lowest_73 : decode cX5_lowest 73 = .ok (.lreturn, 1) := by decide +kernel
theorem dX4_badWith_0 : decode cX4_badWith 0 = .ok (.iload_n 1, 1) := by decide +kernel
theorem dX4_badWith_1 : decode cX4_badWith 1 = .ok (.istore_n 3, 1) := by decide +kernel
theorem dX4_badWith_2 : decode cX4_badWith 2 = .ok (.lconst 0, 1) := by decide +kernel
theorem dX4_badWith_3 : decode cX4_badWith 3 = .ok (.lstore 4, 2) := by decide +kernel
theorem dX4_badWith_5 : decode cX4_badWith 5 = .ok (.aload_n 0, 1) := by decide +kernel
theorem dX4_badWith_6 : decode cX4_badWith 6 = .ok (.getfield 27, 3) := by decide +kernel
theorem dX4_badWith_9 : decode cX4_badWith 9 = .ok (.iconst 1, 1) := by decide +kernel
theorem dX4_badWith_10 : decode cX4_badWith 10 = .ok (.isub, 1) := by decide +kernel
theorem dX4_badWith_11 : decode cX4_badWith 11 = .ok (.istore 6, 2) := by decide +kernel
theorem dX4_badWith_13 : decode cX4_badWith 13 = .ok (.iload 6, 2) := by decide +kernel
theorem dX4_badWith_15 : decode cX4_badWith 15 = .ok (.ifCond .lt 83, 3) := by decide +kernel
theorem dX4_badWith_18 : decode cX4_badWith 18 = .ok (.iload_n 3, 1) := by decide +kernel
theorem dX4_badWith_19 : decode cX4_badWith 19 = .ok (.ifCond .le 79, 3) := by decide +kernel
theorem dX4_badWith_22 : decode cX4_badWith 22 = .ok (.iload_n 3, 1) := by decide +kernel
theorem dX4_badWith_23 : decode cX4_badWith 23 = .ok (.aload_n 0, 1) := by decide +kernel
theorem dX4_badWith_24 : decode cX4_badWith 24 = .ok (.getfield 18, 3) := by decide +kernel
theorem dX4_badWith_27 : decode cX4_badWith 27 = .ok (.iload 6, 2) := by decide +kernel
theorem dX4_badWith_29 : decode cX4_badWith 29 = .ok (.iaload, 1) := by decide +kernel
theorem dX4_badWith_30 : decode cX4_badWith 30 = .ok (.if_icmp .gt 39, 3) := by decide +kernel
theorem dX4_badWith_33 : decode cX4_badWith 33 = .ok (.lload 4, 2) := by decide +kernel
theorem dX4_badWith_35 : decode cX4_badWith 35 = .ok (.aload_n 0, 1) := by decide +kernel
theorem dX4_badWith_36 : decode cX4_badWith 36 = .ok (.getfield 18, 3) := by decide +kernel
theorem dX4_badWith_39 : decode cX4_badWith 39 = .ok (.iload 6, 2) := by decide +kernel
theorem dX4_badWith_41 : decode cX4_badWith 41 = .ok (.iaload, 1) := by decide +kernel
theorem dX4_badWith_42 : decode cX4_badWith 42 = .ok (.i2l, 1) := by decide +kernel
theorem dX4_badWith_43 : decode cX4_badWith 43 = .ok (.lmul, 1) := by decide +kernel
theorem dX4_badWith_44 : decode cX4_badWith 44 = .ok (.iload_n 3, 1) := by decide +kernel
theorem dX4_badWith_45 : decode cX4_badWith 45 = .ok (.i2l, 1) := by decide +kernel
theorem dX4_badWith_46 : decode cX4_badWith 46 = .ok (.aload_n 0, 1) := by decide +kernel
theorem dX4_badWith_47 : decode cX4_badWith 47 = .ok (.getfield 21, 3) := by decide +kernel
theorem dX4_badWith_50 : decode cX4_badWith 50 = .ok (.iload 6, 2) := by decide +kernel
theorem dX4_badWith_52 : decode cX4_badWith 52 = .ok (.iaload, 1) := by decide +kernel
theorem dX4_badWith_53 : decode cX4_badWith 53 = .ok (.i2l, 1) := by decide +kernel
theorem dX4_badWith_54 : decode cX4_badWith 54 = .ok (.lmul, 1) := by decide +kernel
theorem dX4_badWith_55 : decode cX4_badWith 55 = .ok (.ladd, 1) := by decide +kernel
theorem dX4_badWith_56 : decode cX4_badWith 56 = .ok (.aload_n 0, 1) := by decide +kernel
theorem dX4_badWith_57 : decode cX4_badWith 57 = .ok (.getfield 18, 3) := by decide +kernel
theorem dX4_badWith_60 : decode cX4_badWith 60 = .ok (.iload 6, 2) := by decide +kernel
theorem dX4_badWith_62 : decode cX4_badWith 62 = .ok (.iaload, 1) := by decide +kernel
theorem dX4_badWith_63 : decode cX4_badWith 63 = .ok (.i2l, 1) := by decide +kernel
theorem dX4_badWith_64 : decode cX4_badWith 64 = .ok (.iload_n 2, 1) := by decide +kernel
theorem dX4_badWith_65 : decode cX4_badWith 65 = .ok (.invokestatic 89, 3) := by decide +kernel
theorem dX4_badWith_68 : decode cX4_badWith 68 = .ok (.lreturn, 1) := by decide +kernel
theorem dX4_badWith_69 : decode cX4_badWith 69 = .ok (.iload_n 3, 1) := by decide +kernel
theorem dX4_badWith_70 : decode cX4_badWith 70 = .ok (.aload_n 0, 1) := by decide +kernel
theorem dX4_badWith_71 : decode cX4_badWith 71 = .ok (.getfield 18, 3) := by decide +kernel
theorem dX4_badWith_74 : decode cX4_badWith 74 = .ok (.iload 6, 2) := by decide +kernel
theorem dX4_badWith_76 : decode cX4_badWith 76 = .ok (.iaload, 1) := by decide +kernel
theorem dX4_badWith_77 : decode cX4_badWith 77 = .ok (.isub, 1) := by decide +kernel
theorem dX4_badWith_78 : decode cX4_badWith 78 = .ok (.istore_n 3, 1) := by decide +kernel
theorem dX4_badWith_79 : decode cX4_badWith 79 = .ok (.lload 4, 2) := by decide +kernel
theorem dX4_badWith_81 : decode cX4_badWith 81 = .ok (.aload_n 0, 1) := by decide +kernel
theorem dX4_badWith_82 : decode cX4_badWith 82 = .ok (.getfield 21, 3) := by decide +kernel
theorem dX4_badWith_85 : decode cX4_badWith 85 = .ok (.iload 6, 2) := by decide +kernel
theorem dX4_badWith_87 : decode cX4_badWith 87 = .ok (.iaload, 1) := by decide +kernel
theorem dX4_badWith_88 : decode cX4_badWith 88 = .ok (.i2l, 1) := by decide +kernel
theorem dX4_badWith_89 : decode cX4_badWith 89 = .ok (.ladd, 1) := by decide +kernel
theorem dX4_badWith_90 : decode cX4_badWith 90 = .ok (.lstore 4, 2) := by decide +kernel
theorem dX4_badWith_92 : decode cX4_badWith 92 = .ok (.iinc 6 (-1), 3) := by decide +kernel
theorem dX4_badWith_95 : decode cX4_badWith 95 = .ok (.goto (-82), 3) := by decide +kernel
theorem dX4_badWith_98 : decode cX4_badWith 98 = .ok (.lload 4, 2) := by decide +kernel
theorem dX4_badWith_100 : decode cX4_badWith 100 = .ok (.lconst 1, 1) := by decide +kernel
theorem dX4_badWith_101 : decode cX4_badWith 101 = .ok (.iload_n 2, 1) := by decide +kernel
theorem dX4_badWith_102 : decode cX4_badWith 102 = .ok (.invokestatic 89, 3) := by decide +kernel
theorem dX4_badWith_105 : decode cX4_badWith 105 = .ok (.lreturn, 1) := by decide +kernel
theorem dX5_quotient_0 : decode cX5_quotient 0 = .ok (.lload_n 2, 1) := by decide +kernel
theorem dX5_quotient_1 : decode cX5_quotient 1 = .ok (.lconst 0, 1) := by decide +kernel
theorem dX5_quotient_2 : decode cX5_quotient 2 = .ok (.lcmp, 1) := by decide +kernel
theorem dX5_quotient_3 : decode cX5_quotient 3 = .ok (.ifCond .ne 7, 3) := by decide +kernel
theorem dX5_quotient_6 : decode cX5_quotient 6 = .ok (.dconst 0, 1) := by decide +kernel
theorem dX5_quotient_7 : decode cX5_quotient 7 = .ok (.goto 8, 3) := by decide +kernel
theorem dX5_quotient_10 : decode cX5_quotient 10 = .ok (.lload_n 0, 1) := by decide +kernel
theorem dX5_quotient_11 : decode cX5_quotient 11 = .ok (.l2d, 1) := by decide +kernel
theorem dX5_quotient_12 : decode cX5_quotient 12 = .ok (.lload_n 2, 1) := by decide +kernel
theorem dX5_quotient_13 : decode cX5_quotient 13 = .ok (.l2d, 1) := by decide +kernel
theorem dX5_quotient_14 : decode cX5_quotient 14 = .ok (.ddiv, 1) := by decide +kernel
theorem dX5_quotient_15 : decode cX5_quotient 15 = .ok (.dreturn, 1) := by decide +kernel
theorem dX5_doubleBits_0 : decode cX5_doubleBits 0 = .ok (.dload_n 0, 1) := by decide +kernel
theorem dX5_doubleBits_1 : decode cX5_doubleBits 1 = .ok (.dconst 0, 1) := by decide +kernel
theorem dX5_doubleBits_2 : decode cX5_doubleBits 2 = .ok (.dcmp .l, 1) := by decide +kernel
theorem dX5_doubleBits_3 : decode cX5_doubleBits 3 = .ok (.ifCond .gt 5, 3) := by decide +kernel
theorem dX5_doubleBits_6 : decode cX5_doubleBits 6 = .ok (.lconst 0, 1) := by decide +kernel
theorem dX5_doubleBits_7 : decode cX5_doubleBits 7 = .ok (.lreturn, 1) := by decide +kernel
theorem dX5_doubleBits_8 : decode cX5_doubleBits 8 = .ok (.dload_n 0, 1) := by decide +kernel
theorem dX5_doubleBits_9 : decode cX5_doubleBits 9 = .ok (.dstore_n 2, 1) := by decide +kernel
theorem dX5_doubleBits_10 : decode cX5_doubleBits 10 = .ok (.ldc2_w 7, 3) := by decide +kernel
theorem dX5_doubleBits_13 : decode cX5_doubleBits 13 = .ok (.lstore 4, 2) := by decide +kernel
theorem dX5_doubleBits_15 : decode cX5_doubleBits 15 = .ok (.iconst 0, 1) := by decide +kernel
theorem dX5_doubleBits_16 : decode cX5_doubleBits 16 = .ok (.istore 6, 2) := by decide +kernel
theorem dX5_doubleBits_18 : decode cX5_doubleBits 18 = .ok (.iload 6, 2) := by decide +kernel
theorem dX5_doubleBits_20 : decode cX5_doubleBits 20 = .ok (.sipush 1023, 3) := by decide +kernel
theorem dX5_doubleBits_23 : decode cX5_doubleBits 23 = .ok (.if_icmp .ge 29, 3) := by decide +kernel
theorem dX5_doubleBits_26 : decode cX5_doubleBits 26 = .ok (.dload_n 2, 1) := by decide +kernel
theorem dX5_doubleBits_27 : decode cX5_doubleBits 27 = .ok (.ldc2_w 9, 3) := by decide +kernel
theorem dX5_doubleBits_30 : decode cX5_doubleBits 30 = .ok (.dcmp .l, 1) := by decide +kernel
theorem dX5_doubleBits_31 : decode cX5_doubleBits 31 = .ok (.ifCond .lt 21, 3) := by decide +kernel
theorem dX5_doubleBits_34 : decode cX5_doubleBits 34 = .ok (.dload_n 2, 1) := by decide +kernel
theorem dX5_doubleBits_35 : decode cX5_doubleBits 35 = .ok (.ldc2_w 9, 3) := by decide +kernel
theorem dX5_doubleBits_38 : decode cX5_doubleBits 38 = .ok (.ddiv, 1) := by decide +kernel
theorem dX5_doubleBits_39 : decode cX5_doubleBits 39 = .ok (.dstore_n 2, 1) := by decide +kernel
theorem dX5_doubleBits_40 : decode cX5_doubleBits 40 = .ok (.lload 4, 2) := by decide +kernel
theorem dX5_doubleBits_42 : decode cX5_doubleBits 42 = .ok (.lconst 1, 1) := by decide +kernel
theorem dX5_doubleBits_43 : decode cX5_doubleBits 43 = .ok (.ladd, 1) := by decide +kernel
theorem dX5_doubleBits_44 : decode cX5_doubleBits 44 = .ok (.lstore 4, 2) := by decide +kernel
theorem dX5_doubleBits_46 : decode cX5_doubleBits 46 = .ok (.iinc 6 1, 3) := by decide +kernel
theorem dX5_doubleBits_49 : decode cX5_doubleBits 49 = .ok (.goto (-31), 3) := by decide +kernel
theorem dX5_doubleBits_52 : decode cX5_doubleBits 52 = .ok (.iconst 0, 1) := by decide +kernel
theorem dX5_doubleBits_53 : decode cX5_doubleBits 53 = .ok (.istore 6, 2) := by decide +kernel
theorem dX5_doubleBits_55 : decode cX5_doubleBits 55 = .ok (.iload 6, 2) := by decide +kernel
theorem dX5_doubleBits_57 : decode cX5_doubleBits 57 = .ok (.sipush 1022, 3) := by decide +kernel
theorem dX5_doubleBits_60 : decode cX5_doubleBits 60 = .ok (.if_icmp .ge 27, 3) := by decide +kernel
theorem dX5_doubleBits_63 : decode cX5_doubleBits 63 = .ok (.dload_n 2, 1) := by decide +kernel
theorem dX5_doubleBits_64 : decode cX5_doubleBits 64 = .ok (.dconst 1, 1) := by decide +kernel
theorem dX5_doubleBits_65 : decode cX5_doubleBits 65 = .ok (.dcmp .g, 1) := by decide +kernel
theorem dX5_doubleBits_66 : decode cX5_doubleBits 66 = .ok (.ifCond .ge 21, 3) := by decide +kernel
theorem dX5_doubleBits_69 : decode cX5_doubleBits 69 = .ok (.dload_n 2, 1) := by decide +kernel
theorem dX5_doubleBits_70 : decode cX5_doubleBits 70 = .ok (.ldc2_w 9, 3) := by decide +kernel
theorem dX5_doubleBits_73 : decode cX5_doubleBits 73 = .ok (.dmul, 1) := by decide +kernel
theorem dX5_doubleBits_74 : decode cX5_doubleBits 74 = .ok (.dstore_n 2, 1) := by decide +kernel
theorem dX5_doubleBits_75 : decode cX5_doubleBits 75 = .ok (.lload 4, 2) := by decide +kernel
theorem dX5_doubleBits_77 : decode cX5_doubleBits 77 = .ok (.lconst 1, 1) := by decide +kernel
theorem dX5_doubleBits_78 : decode cX5_doubleBits 78 = .ok (.lsub, 1) := by decide +kernel
theorem dX5_doubleBits_79 : decode cX5_doubleBits 79 = .ok (.lstore 4, 2) := by decide +kernel
theorem dX5_doubleBits_81 : decode cX5_doubleBits 81 = .ok (.iinc 6 1, 3) := by decide +kernel
theorem dX5_doubleBits_84 : decode cX5_doubleBits 84 = .ok (.goto (-29), 3) := by decide +kernel
theorem dX5_doubleBits_87 : decode cX5_doubleBits 87 = .ok (.lload 4, 2) := by decide +kernel
theorem dX5_doubleBits_89 : decode cX5_doubleBits 89 = .ok (.bipush 52, 2) := by decide +kernel
theorem dX5_doubleBits_91 : decode cX5_doubleBits 91 = .ok (.lshl, 1) := by decide +kernel
theorem dX5_doubleBits_92 : decode cX5_doubleBits 92 = .ok (.dload_n 2, 1) := by decide +kernel
theorem dX5_doubleBits_93 : decode cX5_doubleBits 93 = .ok (.dconst 1, 1) := by decide +kernel
theorem dX5_doubleBits_94 : decode cX5_doubleBits 94 = .ok (.dsub, 1) := by decide +kernel
theorem dX5_doubleBits_95 : decode cX5_doubleBits 95 = .ok (.ldc2_w 11, 3) := by decide +kernel
theorem dX5_doubleBits_98 : decode cX5_doubleBits 98 = .ok (.dmul, 1) := by decide +kernel
theorem dX5_doubleBits_99 : decode cX5_doubleBits 99 = .ok (.d2l, 1) := by decide +kernel
theorem dX5_doubleBits_100 : decode cX5_doubleBits 100 = .ok (.ladd, 1) := by decide +kernel
theorem dX5_doubleBits_101 : decode cX5_doubleBits 101 = .ok (.lreturn, 1) := by decide +kernel
theorem dX5_floatBits_0 : decode cX5_floatBits 0 = .ok (.fload_n 0, 1) := by decide +kernel
theorem dX5_floatBits_1 : decode cX5_floatBits 1 = .ok (.fconst 0, 1) := by decide +kernel
theorem dX5_floatBits_2 : decode cX5_floatBits 2 = .ok (.fcmp .l, 1) := by decide +kernel
theorem dX5_floatBits_3 : decode cX5_floatBits 3 = .ok (.ifCond .gt 5, 3) := by decide +kernel
theorem dX5_floatBits_6 : decode cX5_floatBits 6 = .ok (.lconst 0, 1) := by decide +kernel
theorem dX5_floatBits_7 : decode cX5_floatBits 7 = .ok (.lreturn, 1) := by decide +kernel
theorem dX5_floatBits_8 : decode cX5_floatBits 8 = .ok (.fload_n 0, 1) := by decide +kernel
theorem dX5_floatBits_9 : decode cX5_floatBits 9 = .ok (.fstore_n 1, 1) := by decide +kernel
theorem dX5_floatBits_10 : decode cX5_floatBits 10 = .ok (.ldc2_w 13, 3) := by decide +kernel
theorem dX5_floatBits_13 : decode cX5_floatBits 13 = .ok (.lstore_n 2, 1) := by decide +kernel
theorem dX5_floatBits_14 : decode cX5_floatBits 14 = .ok (.iconst 0, 1) := by decide +kernel
theorem dX5_floatBits_15 : decode cX5_floatBits 15 = .ok (.istore 4, 2) := by decide +kernel
theorem dX5_floatBits_17 : decode cX5_floatBits 17 = .ok (.iload 4, 2) := by decide +kernel
theorem dX5_floatBits_19 : decode cX5_floatBits 19 = .ok (.bipush 126, 2) := by decide +kernel
theorem dX5_floatBits_21 : decode cX5_floatBits 21 = .ok (.if_icmp .ge 23, 3) := by decide +kernel
theorem dX5_floatBits_24 : decode cX5_floatBits 24 = .ok (.fload_n 1, 1) := by decide +kernel
theorem dX5_floatBits_25 : decode cX5_floatBits 25 = .ok (.fconst 1, 1) := by decide +kernel
theorem dX5_floatBits_26 : decode cX5_floatBits 26 = .ok (.fcmp .g, 1) := by decide +kernel
theorem dX5_floatBits_27 : decode cX5_floatBits 27 = .ok (.ifCond .ge 17, 3) := by decide +kernel
theorem dX5_floatBits_30 : decode cX5_floatBits 30 = .ok (.fload_n 1, 1) := by decide +kernel
theorem dX5_floatBits_31 : decode cX5_floatBits 31 = .ok (.fconst 2, 1) := by decide +kernel
theorem dX5_floatBits_32 : decode cX5_floatBits 32 = .ok (.fmul, 1) := by decide +kernel
theorem dX5_floatBits_33 : decode cX5_floatBits 33 = .ok (.fstore_n 1, 1) := by decide +kernel
theorem dX5_floatBits_34 : decode cX5_floatBits 34 = .ok (.lload_n 2, 1) := by decide +kernel
theorem dX5_floatBits_35 : decode cX5_floatBits 35 = .ok (.lconst 1, 1) := by decide +kernel
theorem dX5_floatBits_36 : decode cX5_floatBits 36 = .ok (.lsub, 1) := by decide +kernel
theorem dX5_floatBits_37 : decode cX5_floatBits 37 = .ok (.lstore_n 2, 1) := by decide +kernel
theorem dX5_floatBits_38 : decode cX5_floatBits 38 = .ok (.iinc 4 1, 3) := by decide +kernel
theorem dX5_floatBits_41 : decode cX5_floatBits 41 = .ok (.goto (-24), 3) := by decide +kernel
theorem dX5_floatBits_44 : decode cX5_floatBits 44 = .ok (.lload_n 2, 1) := by decide +kernel
theorem dX5_floatBits_45 : decode cX5_floatBits 45 = .ok (.bipush 23, 2) := by decide +kernel
theorem dX5_floatBits_47 : decode cX5_floatBits 47 = .ok (.lshl, 1) := by decide +kernel
theorem dX5_floatBits_48 : decode cX5_floatBits 48 = .ok (.fload_n 1, 1) := by decide +kernel
theorem dX5_floatBits_49 : decode cX5_floatBits 49 = .ok (.fconst 1, 1) := by decide +kernel
theorem dX5_floatBits_50 : decode cX5_floatBits 50 = .ok (.fsub, 1) := by decide +kernel
theorem dX5_floatBits_51 : decode cX5_floatBits 51 = .ok (.ldc 15, 2) := by decide +kernel
theorem dX5_floatBits_53 : decode cX5_floatBits 53 = .ok (.fmul, 1) := by decide +kernel
theorem dX5_floatBits_54 : decode cX5_floatBits 54 = .ok (.f2l, 1) := by decide +kernel
theorem dX5_floatBits_55 : decode cX5_floatBits 55 = .ok (.ladd, 1) := by decide +kernel
theorem dX5_floatBits_56 : decode cX5_floatBits 56 = .ok (.lreturn, 1) := by decide +kernel
theorem dJ7_fill_53178_0 : decode cJ7_fill_53178 0 = .ok (.iconst 0, 1) := by decide +kernel
theorem dJ7_fill_53178_1 : decode cJ7_fill_53178 1 = .ok (.istore_n 2, 1) := by decide +kernel
theorem dJ7_fill_53178_2 : decode cJ7_fill_53178 2 = .ok (.aload_n 0, 1) := by decide +kernel
theorem dJ7_fill_53178_3 : decode cJ7_fill_53178 3 = .ok (.arraylength, 1) := by decide +kernel
theorem dJ7_fill_53178_4 : decode cJ7_fill_53178 4 = .ok (.istore_n 3, 1) := by decide +kernel
theorem dJ7_fill_53178_5 : decode cJ7_fill_53178 5 = .ok (.iload_n 2, 1) := by decide +kernel
theorem dJ7_fill_53178_6 : decode cJ7_fill_53178 6 = .ok (.iload_n 3, 1) := by decide +kernel
theorem dJ7_fill_53178_7 : decode cJ7_fill_53178 7 = .ok (.if_icmp .ge 13, 3) := by decide +kernel
theorem dJ7_fill_53178_10 : decode cJ7_fill_53178 10 = .ok (.aload_n 0, 1) := by decide +kernel
theorem dJ7_fill_53178_11 : decode cJ7_fill_53178 11 = .ok (.iload_n 2, 1) := by decide +kernel
theorem dJ7_fill_53178_12 : decode cJ7_fill_53178 12 = .ok (.iload_n 1, 1) := by decide +kernel
theorem dJ7_fill_53178_13 : decode cJ7_fill_53178 13 = .ok (.iastore, 1) := by decide +kernel
theorem dJ7_fill_53178_14 : decode cJ7_fill_53178 14 = .ok (.iinc 2 1, 3) := by decide +kernel
theorem dJ7_fill_53178_17 : decode cJ7_fill_53178 17 = .ok (.goto (-12), 3) := by decide +kernel
theorem dJ7_fill_53178_20 : decode cJ7_fill_53178 20 = .ok (.return_, 1) := by decide +kernel
