theorem dX13_takes_47 : decode cX13_takes 47 = .ok (.iaload, 1) := by decide +kernel
theorem dX13_takes_48 : decode cX13_takes 48 = .ok (.iastore, 1) := by decide +kernel
theorem dX13_takes_49 : decode cX13_takes 49 = .ok (.aload_n 0, 1) := by decide +kernel
theorem dX13_takes_50 : decode cX13_takes 50 = .ok (.getfield 54, 3) := by decide +kernel
theorem dX13_takes_53 : decode cX13_takes 53 = .ok (.iload_n 3, 1) := by decide +kernel
theorem dX13_takes_54 : decode cX13_takes 54 = .ok (.aload_n 2, 1) := by decide +kernel
theorem dX13_takes_55 : decode cX13_takes 55 = .ok (.iload 4, 2) := by decide +kernel
theorem dX13_takes_57 : decode cX13_takes 57 = .ok (.iaload, 1) := by decide +kernel
theorem dX13_takes_58 : decode cX13_takes 58 = .ok (.iastore, 1) := by decide +kernel
theorem dX13_takes_59 : decode cX13_takes 59 = .ok (.iinc 3 1, 3) := by decide +kernel
theorem dX13_takes_62 : decode cX13_takes 62 = .ok (.iinc 4 1, 3) := by decide +kernel
theorem dX13_takes_65 : decode cX13_takes 65 = .ok (.goto (-60), 3) := by decide +kernel
theorem dX13_takes_68 : decode cX13_takes 68 = .ok (.aload_n 0, 1) := by decide +kernel
theorem dX13_takes_69 : decode cX13_takes 69 = .ok (.iload_n 3, 1) := by decide +kernel
theorem dX13_takes_70 : decode cX13_takes 70 = .ok (.putfield 188, 3) := by decide +kernel
theorem dX13_takes_73 : decode cX13_takes 73 = .ok (.return_, 1) := by decide +kernel
theorem dX13_pureOfRows_0 : decode cX13_pureOfRows 0 = .ok (.aload_n 0, 1) := by decide +kernel
theorem dX13_pureOfRows_1 : decode cX13_pureOfRows 1 = .ok (.invokevirtual 236, 3) := by decide +kernel
theorem dX13_pureOfRows_4 : decode cX13_pureOfRows 4 = .ok (.aload_n 0, 1) := by decide +kernel
theorem dX13_pureOfRows_5 : decode cX13_pureOfRows 5 = .ok (.getfield 195, 3) := by decide +kernel
theorem dX13_pureOfRows_8 : decode cX13_pureOfRows 8 = .ok (.ireturn, 1) := by decide +kernel
theorem dX13_cutOfRows_0 : decode cX13_cutOfRows 0 = .ok (.iconst 0, 1) := by decide +kernel
theorem dX13_cutOfRows_1 : decode cX13_cutOfRows 1 = .ok (.istore_n 1, 1) := by decide +kernel
theorem dX13_cutOfRows_2 : decode cX13_cutOfRows 2 = .ok (.aload_n 0, 1) := by decide +kernel
theorem dX13_cutOfRows_3 : decode cX13_cutOfRows 3 = .ok (.getfield 15, 3) := by decide +kernel
theorem dX13_cutOfRows_6 : decode cX13_cutOfRows 6 = .ok (.sipush 3204, 3) := by decide +kernel
theorem dX13_cutOfRows_9 : decode cX13_cutOfRows 9 = .ok (.iaload, 1) := by decide +kernel
theorem dX13_cutOfRows_10 : decode cX13_cutOfRows 10 = .ok (.i2l, 1) := by decide +kernel
theorem dX13_cutOfRows_11 : decode cX13_cutOfRows 11 = .ok (.aload_n 0, 1) := by decide +kernel
theorem dX13_cutOfRows_12 : decode cX13_cutOfRows 12 = .ok (.iconst 0, 1) := by decide +kernel
theorem dX13_cutOfRows_13 : decode cX13_cutOfRows 13 = .ok (.aload_n 0, 1) := by decide +kernel
theorem dX13_cutOfRows_14 : decode cX13_cutOfRows 14 = .ok (.getfield 188, 3) := by decide +kernel
theorem dX13_cutOfRows_17 : decode cX13_cutOfRows 17 = .ok (.iconst 1, 1) := by decide +kernel
theorem dX13_cutOfRows_18 : decode cX13_cutOfRows 18 = .ok (.invokevirtual 191, 3) := by decide +kernel
theorem dX13_cutOfRows_21 : decode cX13_cutOfRows 21 = .ok (.lmul, 1) := by decide +kernel
theorem dX13_cutOfRows_22 : decode cX13_cutOfRows 22 = .ok (.lstore_n 2, 1) := by decide +kernel
theorem dX13_cutOfRows_23 : decode cX13_cutOfRows 23 = .ok (.iconst 0, 1) := by decide +kernel
theorem dX13_cutOfRows_24 : decode cX13_cutOfRows 24 = .ok (.istore 4, 2) := by decide +kernel
theorem dX13_cutOfRows_26 : decode cX13_cutOfRows 26 = .ok (.iload 4, 2) := by decide +kernel
theorem dX13_cutOfRows_28 : decode cX13_cutOfRows 28 = .ok (.aload_n 0, 1) := by decide +kernel
theorem dX13_cutOfRows_29 : decode cX13_cutOfRows 29 = .ok (.getfield 188, 3) := by decide +kernel
theorem dX13_cutOfRows_32 : decode cX13_cutOfRows 32 = .ok (.if_icmp .ge 75, 3) := by decide +kernel
theorem dX13_cutOfRows_35 : decode cX13_cutOfRows 35 = .ok (.aload_n 0, 1) := by decide +kernel
theorem dX13_cutOfRows_36 : decode cX13_cutOfRows 36 = .ok (.getfield 15, 3) := by decide +kernel
theorem dX13_cutOfRows_39 : decode cX13_cutOfRows 39 = .ok (.sipush 3203, 3) := by decide +kernel
theorem dX13_cutOfRows_42 : decode cX13_cutOfRows 42 = .ok (.iaload, 1) := by decide +kernel
theorem dX13_cutOfRows_43 : decode cX13_cutOfRows 43 = .ok (.i2l, 1) := by decide +kernel
theorem dX13_cutOfRows_44 : decode cX13_cutOfRows 44 = .ok (.aload_n 0, 1) := by decide +kernel
theorem dX13_cutOfRows_45 : decode cX13_cutOfRows 45 = .ok (.iconst 0, 1) := by decide +kernel
theorem dX13_cutOfRows_46 : decode cX13_cutOfRows 46 = .ok (.iload 4, 2) := by decide +kernel
theorem dX13_cutOfRows_48 : decode cX13_cutOfRows 48 = .ok (.iconst 1, 1) := by decide +kernel
theorem dX13_cutOfRows_49 : decode cX13_cutOfRows 49 = .ok (.iadd, 1) := by decide +kernel
theorem dX13_cutOfRows_50 : decode cX13_cutOfRows 50 = .ok (.iconst 0, 1) := by decide +kernel
theorem dX13_cutOfRows_51 : decode cX13_cutOfRows 51 = .ok (.invokevirtual 191, 3) := by decide +kernel
theorem dX13_cutOfRows_54 : decode cX13_cutOfRows 54 = .ok (.lmul, 1) := by decide +kernel
theorem dX13_cutOfRows_55 : decode cX13_cutOfRows 55 = .ok (.aload_n 0, 1) := by decide +kernel
theorem dX13_cutOfRows_56 : decode cX13_cutOfRows 56 = .ok (.getfield 15, 3) := by decide +kernel
theorem dX13_cutOfRows_59 : decode cX13_cutOfRows 59 = .ok (.sipush 3204, 3) := by decide +kernel
theorem dX13_cutOfRows_62 : decode cX13_cutOfRows 62 = .ok (.iaload, 1) := by decide +kernel
theorem dX13_cutOfRows_63 : decode cX13_cutOfRows 63 = .ok (.i2l, 1) := by decide +kernel
theorem dX13_cutOfRows_64 : decode cX13_cutOfRows 64 = .ok (.aload_n 0, 1) := by decide +kernel
theorem dX13_cutOfRows_65 : decode cX13_cutOfRows 65 = .ok (.iload 4, 2) := by decide +kernel
theorem dX13_cutOfRows_67 : decode cX13_cutOfRows 67 = .ok (.iconst 1, 1) := by decide +kernel
theorem dX13_cutOfRows_68 : decode cX13_cutOfRows 68 = .ok (.iadd, 1) := by decide +kernel
theorem dX13_cutOfRows_69 : decode cX13_cutOfRows 69 = .ok (.aload_n 0, 1) := by decide +kernel
theorem dX13_cutOfRows_70 : decode cX13_cutOfRows 70 = .ok (.getfield 188, 3) := by decide +kernel
theorem dX13_cutOfRows_73 : decode cX13_cutOfRows 73 = .ok (.iconst 1, 1) := by decide +kernel
theorem dX13_cutOfRows_74 : decode cX13_cutOfRows 74 = .ok (.invokevirtual 191, 3) := by decide +kernel
theorem dX13_cutOfRows_77 : decode cX13_cutOfRows 77 = .ok (.lmul, 1) := by decide +kernel
theorem dX13_cutOfRows_78 : decode cX13_cutOfRows 78 = .ok (.ladd, 1) := by decide +kernel
theorem dX13_cutOfRows_79 : decode cX13_cutOfRows 79 = .ok (.lstore 5, 2) := by decide +kernel
theorem dX13_cutOfRows_81 : decode cX13_cutOfRows 81 = .ok (.lload 5, 2) := by decide +kernel
theorem dX13_cutOfRows_83 : decode cX13_cutOfRows 83 = .ok (.lload_n 2, 1) := by decide +kernel
theorem dX13_cutOfRows_84 : decode cX13_cutOfRows 84 = .ok (.lcmp, 1) := by decide +kernel
theorem dX13_cutOfRows_85 : decode cX13_cutOfRows 85 = .ok (.ifCond .ge 16, 3) := by decide +kernel
theorem dX13_cutOfRows_88 : decode cX13_cutOfRows 88 = .ok (.lload 5, 2) := by decide +kernel
theorem dX13_cutOfRows_90 : decode cX13_cutOfRows 90 = .ok (.lstore_n 2, 1) := by decide +kernel
theorem dX13_cutOfRows_91 : decode cX13_cutOfRows 91 = .ok (.aload_n 0, 1) := by decide +kernel
theorem dX13_cutOfRows_92 : decode cX13_cutOfRows 92 = .ok (.getfield 48, 3) := by decide +kernel
theorem dX13_cutOfRows_95 : decode cX13_cutOfRows 95 = .ok (.iload 4, 2) := by decide +kernel
theorem dX13_cutOfRows_97 : decode cX13_cutOfRows 97 = .ok (.iaload, 1) := by decide +kernel
theorem dX13_cutOfRows_98 : decode cX13_cutOfRows 98 = .ok (.iconst 1, 1) := by decide +kernel
theorem dX13_cutOfRows_99 : decode cX13_cutOfRows 99 = .ok (.iadd, 1) := by decide +kernel
theorem dX13_cutOfRows_100 : decode cX13_cutOfRows 100 = .ok (.istore_n 1, 1) := by decide +kernel
theorem dX13_cutOfRows_101 : decode cX13_cutOfRows 101 = .ok (.iinc 4 1, 3) := by decide +kernel
theorem dX13_cutOfRows_104 : decode cX13_cutOfRows 104 = .ok (.goto (-78), 3) := by decide +kernel
theorem dX13_cutOfRows_107 : decode cX13_cutOfRows 107 = .ok (.iload_n 1, 1) := by decide +kernel
theorem dX13_cutOfRows_108 : decode cX13_cutOfRows 108 = .ok (.ireturn, 1) := by decide +kernel
theorem dX13_inversions_0 : decode cX13_inversions 0 = .ok (.aload_n 0, 1) := by decide +kernel
theorem dX13_inversions_1 : decode cX13_inversions 1 = .ok (.invokevirtual 233, 3) := by decide +kernel
theorem dX13_inversions_4 : decode cX13_inversions 4 = .ok (.iconst 0, 1) := by decide +kernel
theorem dX13_inversions_5 : decode cX13_inversions 5 = .ok (.istore_n 1, 1) := by decide +kernel
theorem dX13_inversions_6 : decode cX13_inversions 6 = .ok (.iconst 0, 1) := by decide +kernel
theorem dX13_inversions_7 : decode cX13_inversions 7 = .ok (.istore_n 2, 1) := by decide +kernel
theorem dX13_inversions_8 : decode cX13_inversions 8 = .ok (.iload_n 2, 1) := by decide +kernel
theorem dX13_inversions_9 : decode cX13_inversions 9 = .ok (.aload_n 0, 1) := by decide +kernel
theorem dX13_inversions_10 : decode cX13_inversions 10 = .ok (.getfield 188, 3) := by decide +kernel
theorem dX13_inversions_13 : decode cX13_inversions 13 = .ok (.if_icmp .ge 78, 3) := by decide +kernel
theorem dX13_inversions_16 : decode cX13_inversions 16 = .ok (.iload_n 2, 1) := by decide +kernel
theorem dX13_inversions_17 : decode cX13_inversions 17 = .ok (.iconst 1, 1) := by decide +kernel
theorem dX13_inversions_18 : decode cX13_inversions 18 = .ok (.iadd, 1) := by decide +kernel
theorem dX13_inversions_19 : decode cX13_inversions 19 = .ok (.istore_n 3, 1) := by decide +kernel
theorem dX13_inversions_20 : decode cX13_inversions 20 = .ok (.iload_n 3, 1) := by decide +kernel
theorem dX13_inversions_21 : decode cX13_inversions 21 = .ok (.aload_n 0, 1) := by decide +kernel
theorem dX13_inversions_22 : decode cX13_inversions 22 = .ok (.getfield 188, 3) := by decide +kernel
theorem dX13_inversions_25 : decode cX13_inversions 25 = .ok (.if_icmp .ge 60, 3) := by decide +kernel
theorem dX13_inversions_28 : decode cX13_inversions 28 = .ok (.iload_n 1, 1) := by decide +kernel
theorem dX13_inversions_29 : decode cX13_inversions 29 = .ok (.aload_n 0, 1) := by decide +kernel
theorem dX13_inversions_30 : decode cX13_inversions 30 = .ok (.getfield 54, 3) := by decide +kernel
theorem dX13_inversions_33 : decode cX13_inversions 33 = .ok (.iload_n 3, 1) := by decide +kernel
theorem dX13_inversions_34 : decode cX13_inversions 34 = .ok (.iaload, 1) := by decide +kernel
theorem dX13_inversions_35 : decode cX13_inversions 35 = .ok (.aload_n 0, 1) := by decide +kernel
theorem dX13_inversions_36 : decode cX13_inversions 36 = .ok (.getfield 51, 3) := by decide +kernel
theorem dX13_inversions_39 : decode cX13_inversions 39 = .ok (.iload_n 2, 1) := by decide +kernel
theorem dX13_inversions_40 : decode cX13_inversions 40 = .ok (.iaload, 1) := by decide +kernel
theorem dX13_inversions_41 : decode cX13_inversions 41 = .ok (.aload_n 0, 1) := by decide +kernel
theorem dX13_inversions_42 : decode cX13_inversions 42 = .ok (.getfield 54, 3) := by decide +kernel
theorem dX13_inversions_45 : decode cX13_inversions 45 = .ok (.iload_n 2, 1) := by decide +kernel
theorem dX13_inversions_46 : decode cX13_inversions 46 = .ok (.iaload, 1) := by decide +kernel
theorem dX13_inversions_47 : decode cX13_inversions 47 = .ok (.iadd, 1) := by decide +kernel
theorem dX13_inversions_48 : decode cX13_inversions 48 = .ok (.imul, 1) := by decide +kernel
theorem dX13_inversions_49 : decode cX13_inversions 49 = .ok (.aload_n 0, 1) := by decide +kernel
theorem dX13_inversions_50 : decode cX13_inversions 50 = .ok (.getfield 54, 3) := by decide +kernel
theorem dX13_inversions_53 : decode cX13_inversions 53 = .ok (.iload_n 2, 1) := by decide +kernel
theorem dX13_inversions_54 : decode cX13_inversions 54 = .ok (.iaload, 1) := by decide +kernel
theorem dX13_inversions_55 : decode cX13_inversions 55 = .ok (.aload_n 0, 1) := by decide +kernel
theorem dX13_inversions_56 : decode cX13_inversions 56 = .ok (.getfield 51, 3) := by decide +kernel
theorem dX13_inversions_59 : decode cX13_inversions 59 = .ok (.iload_n 3, 1) := by decide +kernel
theorem dX13_inversions_60 : decode cX13_inversions 60 = .ok (.iaload, 1) := by decide +kernel
theorem dX13_inversions_61 : decode cX13_inversions 61 = .ok (.aload_n 0, 1) := by decide +kernel
theorem dX13_inversions_62 : decode cX13_inversions 62 = .ok (.getfield 54, 3) := by decide +kernel
theorem dX13_inversions_65 : decode cX13_inversions 65 = .ok (.iload_n 3, 1) := by decide +kernel
theorem dX13_inversions_66 : decode cX13_inversions 66 = .ok (.iaload, 1) := by decide +kernel
theorem dX13_inversions_67 : decode cX13_inversions 67 = .ok (.iadd, 1) := by decide +kernel
theorem dX13_inversions_68 : decode cX13_inversions 68 = .ok (.imul, 1) := by decide +kernel
theorem dX13_inversions_69 : decode cX13_inversions 69 = .ok (.if_icmp .le 7, 3) := by decide +kernel
theorem dX13_inversions_72 : decode cX13_inversions 72 = .ok (.iconst 1, 1) := by decide +kernel
theorem dX13_inversions_73 : decode cX13_inversions 73 = .ok (.goto 4, 3) := by decide +kernel
theorem dX13_inversions_76 : decode cX13_inversions 76 = .ok (.iconst 0, 1) := by decide +kernel
theorem dX13_inversions_77 : decode cX13_inversions 77 = .ok (.iadd, 1) := by decide +kernel
theorem dX13_inversions_78 : decode cX13_inversions 78 = .ok (.istore_n 1, 1) := by decide +kernel
theorem dX13_inversions_79 : decode cX13_inversions 79 = .ok (.iinc 3 1, 3) := by decide +kernel
theorem dX13_inversions_82 : decode cX13_inversions 82 = .ok (.goto (-62), 3) := by decide +kernel
theorem dX13_inversions_85 : decode cX13_inversions 85 = .ok (.iinc 2 1, 3) := by decide +kernel
theorem dX13_inversions_88 : decode cX13_inversions 88 = .ok (.goto (-80), 3) := by decide +kernel
theorem dX13_inversions_91 : decode cX13_inversions 91 = .ok (.iload_n 1, 1) := by decide +kernel
theorem dX13_inversions_92 : decode cX13_inversions 92 = .ok (.ireturn, 1) := by decide +kernel
theorem dX13_between_0 : decode cX13_between 0 = .ok (.iload_n 1, 1) := by decide +kernel
theorem dX13_between_1 : decode cX13_between 1 = .ok (.invokestatic 312, 3) := by decide +kernel
theorem dX13_between_4 : decode cX13_between 4 = .ok (.ifCond .eq 27, 3) := by decide +kernel
theorem dX13_between_7 : decode cX13_between 7 = .ok (.iload_n 2, 1) := by decide +kernel
theorem dX13_between_8 : decode cX13_between 8 = .ok (.invokestatic 312, 3) := by decide +kernel
theorem dX13_between_11 : decode cX13_between 11 = .ok (.ifCond .eq 20, 3) := by decide +kernel
theorem dX13_between_14 : decode cX13_between 14 = .ok (.iload_n 1, 1) := by decide +kernel
theorem dX13_between_15 : decode cX13_between 15 = .ok (.iload_n 2, 1) := by decide +kernel
theorem dX13_between_16 : decode cX13_between 16 = .ok (.if_icmp .gt 15, 3) := by decide +kernel
theorem dX13_between_19 : decode cX13_between 19 = .ok (.iload_n 3, 1) := by decide +kernel
theorem dX13_between_20 : decode cX13_between 20 = .ok (.i2l, 1) := by decide +kernel
theorem dX13_between_21 : decode cX13_between 21 = .ok (.lconst 0, 1) := by decide +kernel
theorem dX13_between_22 : decode cX13_between 22 = .ok (.ldc2_w 291, 3) := by decide +kernel
theorem dX13_between_25 : decode cX13_between 25 = .ok (.invokestatic 86, 3) := by decide +kernel
theorem dX13_between_28 : decode cX13_between 28 = .ok (.ifCond .ne 6, 3) := by decide +kernel
theorem dX13_between_31 : decode cX13_between 31 = .ok (.bipush (-2), 2) := by decide +kernel
theorem dX13_between_33 : decode cX13_between 33 = .ok (.ireturn, 1) := by decide +kernel
theorem dX13_between_34 : decode cX13_between 34 = .ok (.aload_n 0, 1) := by decide +kernel
theorem dX13_between_35 : decode cX13_between 35 = .ok (.invokevirtual 233, 3) := by decide +kernel
theorem dX13_between_38 : decode cX13_between 38 = .ok (.iconst 0, 1) := by decide +kernel
theorem dX13_between_39 : decode cX13_between 39 = .ok (.istore 4, 2) := by decide +kernel
theorem dX13_between_41 : decode cX13_between 41 = .ok (.iconst 0, 1) := by decide +kernel
theorem dX13_between_42 : decode cX13_between 42 = .ok (.istore 5, 2) := by decide +kernel
theorem dX13_between_44 : decode cX13_between 44 = .ok (.iload 5, 2) := by decide +kernel
theorem dX13_between_46 : decode cX13_between 46 = .ok (.aload_n 0, 1) := by decide +kernel
theorem dX13_between_47 : decode cX13_between 47 = .ok (.getfield 188, 3) := by decide +kernel
theorem dX13_between_50 : decode cX13_between 50 = .ok (.if_icmp .ge 82, 3) := by decide +kernel
theorem dX13_between_53 : decode cX13_between 53 = .ok (.aload_n 0, 1) := by decide +kernel
theorem dX13_between_54 : decode cX13_between 54 = .ok (.getfield 48, 3) := by decide +kernel
theorem dX13_between_57 : decode cX13_between 57 = .ok (.iload 5, 2) := by decide +kernel
theorem dX13_between_59 : decode cX13_between 59 = .ok (.iaload, 1) := by decide +kernel
theorem dX13_between_60 : decode cX13_between 60 = .ok (.iload_n 1, 1) := by decide +kernel
theorem dX13_between_61 : decode cX13_between 61 = .ok (.if_icmp .lt 18, 3) := by decide +kernel
theorem dX13_between_64 : decode cX13_between 64 = .ok (.aload_n 0, 1) := by decide +kernel
theorem dX13_between_65 : decode cX13_between 65 = .ok (.getfield 48, 3) := by decide +kernel
theorem dX13_between_68 : decode cX13_between 68 = .ok (.iload 5, 2) := by decide +kernel
theorem dX13_between_70 : decode cX13_between 70 = .ok (.iaload, 1) := by decide +kernel
theorem dX13_between_71 : decode cX13_between 71 = .ok (.iload_n 2, 1) := by decide +kernel
theorem dX13_between_72 : decode cX13_between 72 = .ok (.if_icmp .ge 7, 3) := by decide +kernel
theorem dX13_between_75 : decode cX13_between 75 = .ok (.iconst 1, 1) := by decide +kernel
theorem dX13_between_76 : decode cX13_between 76 = .ok (.goto 4, 3) := by decide +kernel
theorem dX13_between_79 : decode cX13_between 79 = .ok (.iconst 0, 1) := by decide +kernel
theorem dX13_between_80 : decode cX13_between 80 = .ok (.istore 6, 2) := by decide +kernel
theorem dX13_between_82 : decode cX13_between 82 = .ok (.iload 4, 2) := by decide +kernel
theorem dX13_between_84 : decode cX13_between 84 = .ok (.iload 6, 2) := by decide +kernel
theorem dX13_between_86 : decode cX13_between 86 = .ok (.ifCond .ne 7, 3) := by decide +kernel
theorem dX13_between_89 : decode cX13_between 89 = .ok (.iconst 0, 1) := by decide +kernel
theorem dX13_between_90 : decode cX13_between 90 = .ok (.goto 33, 3) := by decide +kernel
theorem dX13_between_93 : decode cX13_between 93 = .ok (.iload_n 3, 1) := by decide +kernel
theorem dX13_between_94 : decode cX13_between 94 = .ok (.ifCond .ne 13, 3) := by decide +kernel
theorem dX13_between_97 : decode cX13_between 97 = .ok (.aload_n 0, 1) := by decide +kernel
theorem dX13_between_98 : decode cX13_between 98 = .ok (.getfield 51, 3) := by decide +kernel
theorem dX13_between_101 : decode cX13_between 101 = .ok (.iload 5, 2) := by decide +kernel
theorem dX13_between_103 : decode cX13_between 103 = .ok (.iaload, 1) := by decide +kernel
theorem dX13_between_104 : decode cX13_between 104 = .ok (.goto 19, 3) := by decide +kernel
theorem dX13_between_107 : decode cX13_between 107 = .ok (.iload_n 3, 1) := by decide +kernel
theorem dX13_between_108 : decode cX13_between 108 = .ok (.iconst 1, 1) := by decide +kernel
theorem dX13_between_109 : decode cX13_between 109 = .ok (.if_icmp .ne 13, 3) := by decide +kernel
theorem dX13_between_112 : decode cX13_between 112 = .ok (.aload_n 0, 1) := by decide +kernel
theorem dX13_between_113 : decode cX13_between 113 = .ok (.getfield 54, 3) := by decide +kernel
theorem dX13_between_116 : decode cX13_between 116 = .ok (.iload 5, 2) := by decide +kernel
theorem dX13_between_118 : decode cX13_between 118 = .ok (.iaload, 1) := by decide +kernel
theorem dX13_between_119 : decode cX13_between 119 = .ok (.goto 4, 3) := by decide +kernel
theorem dX13_between_122 : decode cX13_between 122 = .ok (.iconst 1, 1) := by decide +kernel
theorem dX13_between_123 : decode cX13_between 123 = .ok (.iadd, 1) := by decide +kernel
theorem dX13_between_124 : decode cX13_between 124 = .ok (.istore 4, 2) := by decide +kernel
theorem dX13_between_126 : decode cX13_between 126 = .ok (.iinc 5 1, 3) := by decide +kernel
theorem dX13_between_129 : decode cX13_between 129 = .ok (.goto (-85), 3) := by decide +kernel
theorem dX13_between_132 : decode cX13_between 132 = .ok (.iload 4, 2) := by decide +kernel
theorem dX13_between_134 : decode cX13_between 134 = .ok (.ireturn, 1) := by decide +kernel
theorem dX13_errorOf_0 : decode cX13_errorOf 0 = .ok (.aload_n 0, 1) := by decide +kernel
theorem dX13_errorOf_1 : decode cX13_errorOf 1 = .ok (.iload_n 1, 1) := by decide +kernel
theorem dX13_errorOf_2 : decode cX13_errorOf 2 = .ok (.iload_n 2, 1) := by decide +kernel
theorem dX13_errorOf_3 : decode cX13_errorOf 3 = .ok (.iconst 0, 1) := by decide +kernel
theorem dX13_errorOf_4 : decode cX13_errorOf 4 = .ok (.invokevirtual 191, 3) := by decide +kernel
theorem dX13_errorOf_7 : decode cX13_errorOf 7 = .ok (.aload_n 0, 1) := by decide +kernel
theorem dX13_errorOf_8 : decode cX13_errorOf 8 = .ok (.iload_n 1, 1) := by decide +kernel
theorem dX13_errorOf_9 : decode cX13_errorOf 9 = .ok (.iload_n 2, 1) := by decide +kernel
theorem dX13_errorOf_10 : decode cX13_errorOf 10 = .ok (.iconst 1, 1) := by decide +kernel
theorem dX13_errorOf_11 : decode cX13_errorOf 11 = .ok (.invokevirtual 191, 3) := by decide +kernel
theorem dX13_errorOf_14 : decode cX13_errorOf 14 = .ok (.lmul, 1) := by decide +kernel
theorem dX13_errorOf_15 : decode cX13_errorOf 15 = .ok (.l2d, 1) := by decide +kernel
theorem dX13_errorOf_16 : decode cX13_errorOf 16 = .ok (.aload_n 0, 1) := by decide +kernel
theorem dX13_errorOf_17 : decode cX13_errorOf 17 = .ok (.iload_n 1, 1) := by decide +kernel
theorem dX13_errorOf_18 : decode cX13_errorOf 18 = .ok (.iload_n 2, 1) := by decide +kernel
theorem dX13_errorOf_19 : decode cX13_errorOf 19 = .ok (.iconst 2, 1) := by decide +kernel
theorem dX13_errorOf_20 : decode cX13_errorOf 20 = .ok (.invokevirtual 191, 3) := by decide +kernel
theorem dX13_errorOf_23 : decode cX13_errorOf 23 = .ok (.l2d, 1) := by decide +kernel
theorem dX13_errorOf_24 : decode cX13_errorOf 24 = .ok (.ddiv, 1) := by decide +kernel
theorem dX13_errorOf_25 : decode cX13_errorOf 25 = .ok (.dreturn, 1) := by decide +kernel
theorem dX13_laysSplit_0 : decode cX13_laysSplit 0 = .ok (.iconst 1, 1) := by decide +kernel
theorem dX13_laysSplit_1 : decode cX13_laysSplit 1 = .ok (.istore_n 2, 1) := by decide +kernel
theorem dX13_laysSplit_2 : decode cX13_laysSplit 2 = .ok (.iload_n 2, 1) := by decide +kernel
theorem dX13_laysSplit_3 : decode cX13_laysSplit 3 = .ok (.aload_n 0, 1) := by decide +kernel
theorem dX13_laysSplit_4 : decode cX13_laysSplit 4 = .ok (.getfield 188, 3) := by decide +kernel
theorem dX13_laysSplit_7 : decode cX13_laysSplit 7 = .ok (.if_icmp .gt 38, 3) := by decide +kernel
theorem dX13_laysSplit_10 : decode cX13_laysSplit 10 = .ok (.aload_n 0, 1) := by decide +kernel
theorem dX13_laysSplit_11 : decode cX13_laysSplit 11 = .ok (.getfield 64, 3) := by decide +kernel
theorem dX13_laysSplit_14 : decode cX13_laysSplit 14 = .ok (.bipush 61, 2) := by decide +kernel
theorem dX13_laysSplit_16 : decode cX13_laysSplit 16 = .ok (.iload_n 2, 1) := by decide +kernel
theorem dX13_laysSplit_17 : decode cX13_laysSplit 17 = .ok (.imul, 1) := by decide +kernel
theorem dX13_laysSplit_18 : decode cX13_laysSplit 18 = .ok (.iconst 1, 1) := by decide +kernel
theorem dX13_laysSplit_19 : decode cX13_laysSplit 19 = .ok (.iadd, 1) := by decide +kernel
theorem dX13_laysSplit_20 : decode cX13_laysSplit 20 = .ok (.aload_n 0, 1) := by decide +kernel
theorem dX13_laysSplit_21 : decode cX13_laysSplit 21 = .ok (.iconst 0, 1) := by decide +kernel
theorem dX13_laysSplit_22 : decode cX13_laysSplit 22 = .ok (.iload_n 2, 1) := by decide +kernel
theorem dX13_laysSplit_23 : decode cX13_laysSplit 23 = .ok (.invokevirtual 379, 3) := by decide +kernel
theorem dX13_laysSplit_26 : decode cX13_laysSplit 26 = .ok (.dastore, 1) := by decide +kernel
theorem dX13_laysSplit_27 : decode cX13_laysSplit 27 = .ok (.aload_n 0, 1) := by decide +kernel
theorem dX13_laysSplit_28 : decode cX13_laysSplit 28 = .ok (.getfield 68, 3) := by decide +kernel
theorem dX13_laysSplit_31 : decode cX13_laysSplit 31 = .ok (.bipush 61, 2) := by decide +kernel
theorem dX13_laysSplit_33 : decode cX13_laysSplit 33 = .ok (.iload_n 2, 1) := by decide +kernel
theorem dX13_laysSplit_34 : decode cX13_laysSplit 34 = .ok (.imul, 1) := by decide +kernel
theorem dX13_laysSplit_35 : decode cX13_laysSplit 35 = .ok (.iconst 1, 1) := by decide +kernel
theorem dX13_laysSplit_36 : decode cX13_laysSplit 36 = .ok (.iadd, 1) := by decide +kernel
theorem dX13_laysSplit_37 : decode cX13_laysSplit 37 = .ok (.iconst 0, 1) := by decide +kernel
theorem dX13_laysSplit_38 : decode cX13_laysSplit 38 = .ok (.iastore, 1) := by decide +kernel
theorem dX13_laysSplit_39 : decode cX13_laysSplit 39 = .ok (.iinc 2 1, 3) := by decide +kernel
theorem dX13_laysSplit_42 : decode cX13_laysSplit 42 = .ok (.goto (-40), 3) := by decide +kernel
theorem dX13_laysSplit_45 : decode cX13_laysSplit 45 = .ok (.iconst 2, 1) := by decide +kernel
theorem dX13_laysSplit_46 : decode cX13_laysSplit 46 = .ok (.istore_n 2, 1) := by decide +kernel
theorem dX13_laysSplit_47 : decode cX13_laysSplit 47 = .ok (.iload_n 2, 1) := by decide +kernel
theorem dX13_laysSplit_48 : decode cX13_laysSplit 48 = .ok (.iload_n 1, 1) := by decide +kernel
theorem dX13_laysSplit_49 : decode cX13_laysSplit 49 = .ok (.if_icmp .gt 120, 3) := by decide +kernel
theorem dX13_laysSplit_52 : decode cX13_laysSplit 52 = .ok (.iload_n 2, 1) := by decide +kernel
theorem dX13_laysSplit_53 : decode cX13_laysSplit 53 = .ok (.istore_n 3, 1) := by decide +kernel
theorem dX13_laysSplit_54 : decode cX13_laysSplit 54 = .ok (.iload_n 3, 1) := by decide +kernel
theorem dX13_laysSplit_55 : decode cX13_laysSplit 55 = .ok (.aload_n 0, 1) := by decide +kernel
theorem dX13_laysSplit_56 : decode cX13_laysSplit 56 = .ok (.getfield 188, 3) := by decide +kernel
theorem dX13_laysSplit_59 : decode cX13_laysSplit 59 = .ok (.if_icmp .gt 104, 3) := by decide +kernel
theorem dX13_laysSplit_62 : decode cX13_laysSplit 62 = .ok (.iconst (-1), 1) := by decide +kernel
theorem dX13_laysSplit_63 : decode cX13_laysSplit 63 = .ok (.istore 4, 2) := by decide +kernel
theorem dX13_laysSplit_65 : decode cX13_laysSplit 65 = .ok (.dconst 0, 1) := by decide +kernel
theorem dX13_laysSplit_66 : decode cX13_laysSplit 66 = .ok (.dstore 5, 2) := by decide +kernel
theorem dX13_laysSplit_68 : decode cX13_laysSplit 68 = .ok (.iload_n 2, 1) := by decide +kernel
theorem dX13_laysSplit_69 : decode cX13_laysSplit 69 = .ok (.iconst 1, 1) := by decide +kernel
theorem dX13_laysSplit_70 : decode cX13_laysSplit 70 = .ok (.isub, 1) := by decide +kernel
theorem dX13_laysSplit_71 : decode cX13_laysSplit 71 = .ok (.istore 7, 2) := by decide +kernel
theorem dX13_laysSplit_73 : decode cX13_laysSplit 73 = .ok (.iload 7, 2) := by decide +kernel
theorem dX13_laysSplit_75 : decode cX13_laysSplit 75 = .ok (.iload_n 3, 1) := by decide +kernel
theorem dX13_laysSplit_76 : decode cX13_laysSplit 76 = .ok (.if_icmp .ge 55, 3) := by decide +kernel
theorem dX13_laysSplit_79 : decode cX13_laysSplit 79 = .ok (.aload_n 0, 1) := by decide +kernel
theorem dX13_laysSplit_80 : decode cX13_laysSplit 80 = .ok (.getfield 64, 3) := by decide +kernel
theorem dX13_laysSplit_83 : decode cX13_laysSplit 83 = .ok (.bipush 61, 2) := by decide +kernel
theorem dX13_laysSplit_85 : decode cX13_laysSplit 85 = .ok (.iload 7, 2) := by decide +kernel
theorem dX13_laysSplit_87 : decode cX13_laysSplit 87 = .ok (.imul, 1) := by decide +kernel
theorem dX13_laysSplit_88 : decode cX13_laysSplit 88 = .ok (.iload_n 2, 1) := by decide +kernel
theorem dX13_laysSplit_89 : decode cX13_laysSplit 89 = .ok (.iadd, 1) := by decide +kernel
theorem dX13_laysSplit_90 : decode cX13_laysSplit 90 = .ok (.iconst 1, 1) := by decide +kernel
theorem dX13_laysSplit_91 : decode cX13_laysSplit 91 = .ok (.isub, 1) := by decide +kernel
theorem dX13_laysSplit_92 : decode cX13_laysSplit 92 = .ok (.daload, 1) := by decide +kernel
theorem dX13_laysSplit_93 : decode cX13_laysSplit 93 = .ok (.aload_n 0, 1) := by decide +kernel
theorem dX13_laysSplit_94 : decode cX13_laysSplit 94 = .ok (.iload 7, 2) := by decide +kernel
theorem dX13_laysSplit_96 : decode cX13_laysSplit 96 = .ok (.iload_n 3, 1) := by decide +kernel
theorem dX13_laysSplit_97 : decode cX13_laysSplit 97 = .ok (.invokevirtual 379, 3) := by decide +kernel
theorem dX13_laysSplit_100 : decode cX13_laysSplit 100 = .ok (.dadd, 1) := by decide +kernel
theorem dX13_laysSplit_101 : decode cX13_laysSplit 101 = .ok (.dstore 8, 2) := by decide +kernel
theorem dX13_laysSplit_103 : decode cX13_laysSplit 103 = .ok (.iload 4, 2) := by decide +kernel
theorem dX13_laysSplit_105 : decode cX13_laysSplit 105 = .ok (.iconst (-1), 1) := by decide +kernel
theorem dX13_laysSplit_106 : decode cX13_laysSplit 106 = .ok (.if_icmp .eq 11, 3) := by decide +kernel
theorem dX13_laysSplit_109 : decode cX13_laysSplit 109 = .ok (.dload 8, 2) := by decide +kernel
theorem dX13_laysSplit_111 : decode cX13_laysSplit 111 = .ok (.dload 5, 2) := by decide +kernel
theorem dX13_laysSplit_113 : decode cX13_laysSplit 113 = .ok (.dcmp .g, 1) := by decide +kernel
theorem dX13_laysSplit_114 : decode cX13_laysSplit 114 = .ok (.ifCond .ge 11, 3) := by decide +kernel
theorem dX13_laysSplit_117 : decode cX13_laysSplit 117 = .ok (.iload 7, 2) := by decide +kernel
theorem dX13_laysSplit_119 : decode cX13_laysSplit 119 = .ok (.istore 4, 2) := by decide +kernel
theorem dX13_laysSplit_121 : decode cX13_laysSplit 121 = .ok (.dload 8, 2) := by decide +kernel
theorem dX13_laysSplit_123 : decode cX13_laysSplit 123 = .ok (.dstore 5, 2) := by decide +kernel
theorem dX13_laysSplit_125 : decode cX13_laysSplit 125 = .ok (.iinc 7 1, 3) := by decide +kernel
theorem dX13_laysSplit_128 : decode cX13_laysSplit 128 = .ok (.goto (-55), 3) := by decide +kernel
theorem dX13_laysSplit_131 : decode cX13_laysSplit 131 = .ok (.aload_n 0, 1) := by decide +kernel
theorem dX13_laysSplit_132 : decode cX13_laysSplit 132 = .ok (.getfield 64, 3) := by decide +kernel
theorem dX13_laysSplit_135 : decode cX13_laysSplit 135 = .ok (.bipush 61, 2) := by decide +kernel
theorem dX13_laysSplit_137 : decode cX13_laysSplit 137 = .ok (.iload_n 3, 1) := by decide +kernel
theorem dX13_laysSplit_138 : decode cX13_laysSplit 138 = .ok (.imul, 1) := by decide +kernel
theorem dX13_laysSplit_139 : decode cX13_laysSplit 139 = .ok (.iload_n 2, 1) := by decide +kernel
theorem dX13_laysSplit_140 : decode cX13_laysSplit 140 = .ok (.iadd, 1) := by decide +kernel
theorem dX13_laysSplit_141 : decode cX13_laysSplit 141 = .ok (.dload 5, 2) := by decide +kernel
theorem dX13_laysSplit_143 : decode cX13_laysSplit 143 = .ok (.dastore, 1) := by decide +kernel
theorem dX13_laysSplit_144 : decode cX13_laysSplit 144 = .ok (.aload_n 0, 1) := by decide +kernel
theorem dX13_laysSplit_145 : decode cX13_laysSplit 145 = .ok (.getfield 68, 3) := by decide +kernel
theorem dX13_laysSplit_148 : decode cX13_laysSplit 148 = .ok (.bipush 61, 2) := by decide +kernel
theorem dX13_laysSplit_150 : decode cX13_laysSplit 150 = .ok (.iload_n 3, 1) := by decide +kernel
theorem dX13_laysSplit_151 : decode cX13_laysSplit 151 = .ok (.imul, 1) := by decide +kernel
theorem dX13_laysSplit_152 : decode cX13_laysSplit 152 = .ok (.iload_n 2, 1) := by decide +kernel
theorem dX13_laysSplit_153 : decode cX13_laysSplit 153 = .ok (.iadd, 1) := by decide +kernel
theorem dX13_laysSplit_154 : decode cX13_laysSplit 154 = .ok (.iload 4, 2) := by decide +kernel
theorem dX13_laysSplit_156 : decode cX13_laysSplit 156 = .ok (.iastore, 1) := by decide +kernel
theorem dX13_laysSplit_157 : decode cX13_laysSplit 157 = .ok (.iinc 3 1, 3) := by decide +kernel
theorem dX13_laysSplit_160 : decode cX13_laysSplit 160 = .ok (.goto (-106), 3) := by decide +kernel
theorem dX13_laysSplit_163 : decode cX13_laysSplit 163 = .ok (.iinc 2 1, 3) := by decide +kernel
theorem dX13_laysSplit_166 : decode cX13_laysSplit 166 = .ok (.goto (-119), 3) := by decide +kernel
theorem dX13_laysSplit_169 : decode cX13_laysSplit 169 = .ok (.return_, 1) := by decide +kernel
theorem dX13_split_0 : decode cX13_split 0 = .ok (.aload_n 0, 1) := by decide +kernel
theorem dX13_split_1 : decode cX13_split 1 = .ok (.invokevirtual 233, 3) := by decide +kernel
theorem dX13_split_4 : decode cX13_split 4 = .ok (.iload_n 1, 1) := by decide +kernel
theorem dX13_split_5 : decode cX13_split 5 = .ok (.i2l, 1) := by decide +kernel
theorem dX13_split_6 : decode cX13_split 6 = .ok (.lconst 1, 1) := by decide +kernel
theorem dX13_split_7 : decode cX13_split 7 = .ok (.aload_n 0, 1) := by decide +kernel
theorem dX13_split_8 : decode cX13_split 8 = .ok (.getfield 188, 3) := by decide +kernel
theorem dX13_split_11 : decode cX13_split 11 = .ok (.i2l, 1) := by decide +kernel
theorem dX13_split_12 : decode cX13_split 12 = .ok (.invokestatic 86, 3) := by decide +kernel
theorem dX13_split_15 : decode cX13_split 15 = .ok (.ifCond .ne 7, 3) := by decide +kernel
theorem dX13_split_18 : decode cX13_split 18 = .ok (.ldc2_w 274, 3) := by decide +kernel
theorem dX13_split_21 : decode cX13_split 21 = .ok (.lreturn, 1) := by decide +kernel
theorem dX13_split_22 : decode cX13_split 22 = .ok (.aload_n 0, 1) := by decide +kernel
theorem dX13_split_23 : decode cX13_split 23 = .ok (.iload_n 1, 1) := by decide +kernel
theorem dX13_split_24 : decode cX13_split 24 = .ok (.invokevirtual 383, 3) := by decide +kernel
theorem dX13_split_27 : decode cX13_split 27 = .ok (.aload_n 0, 1) := by decide +kernel
theorem dX13_split_28 : decode cX13_split 28 = .ok (.getfield 64, 3) := by decide +kernel
theorem dX13_split_31 : decode cX13_split 31 = .ok (.bipush 61, 2) := by decide +kernel
theorem dX13_split_33 : decode cX13_split 33 = .ok (.aload_n 0, 1) := by decide +kernel
theorem dX13_split_34 : decode cX13_split 34 = .ok (.getfield 188, 3) := by decide +kernel
theorem dX13_split_37 : decode cX13_split 37 = .ok (.imul, 1) := by decide +kernel
theorem dX13_split_38 : decode cX13_split 38 = .ok (.iload_n 1, 1) := by decide +kernel
theorem dX13_split_39 : decode cX13_split 39 = .ok (.iadd, 1) := by decide +kernel
theorem dX13_split_40 : decode cX13_split 40 = .ok (.daload, 1) := by decide +kernel
theorem dX13_split_41 : decode cX13_split 41 = .ok (.invokestatic 276, 3) := by decide +kernel
theorem dX13_split_44 : decode cX13_split 44 = .ok (.lreturn, 1) := by decide +kernel
theorem dX13_splitAt_0 : decode cX13_splitAt 0 = .ok (.aload_n 0, 1) := by decide +kernel
theorem dX13_splitAt_1 : decode cX13_splitAt 1 = .ok (.invokevirtual 233, 3) := by decide +kernel
theorem dX13_splitAt_4 : decode cX13_splitAt 4 = .ok (.iload_n 1, 1) := by decide +kernel
theorem dX13_splitAt_5 : decode cX13_splitAt 5 = .ok (.i2l, 1) := by decide +kernel
theorem dX13_splitAt_6 : decode cX13_splitAt 6 = .ok (.lconst 1, 1) := by decide +kernel
theorem dX13_splitAt_7 : decode cX13_splitAt 7 = .ok (.aload_n 0, 1) := by decide +kernel
theorem dX13_splitAt_8 : decode cX13_splitAt 8 = .ok (.getfield 188, 3) := by decide +kernel
theorem dX13_splitAt_11 : decode cX13_splitAt 11 = .ok (.i2l, 1) := by decide +kernel
theorem dX13_splitAt_12 : decode cX13_splitAt 12 = .ok (.invokestatic 86, 3) := by decide +kernel
theorem dX13_splitAt_15 : decode cX13_splitAt 15 = .ok (.ifCond .eq 16, 3) := by decide +kernel
theorem dX13_splitAt_18 : decode cX13_splitAt 18 = .ok (.iload_n 2, 1) := by decide +kernel
theorem dX13_splitAt_19 : decode cX13_splitAt 19 = .ok (.i2l, 1) := by decide +kernel
theorem dX13_splitAt_20 : decode cX13_splitAt 20 = .ok (.lconst 0, 1) := by decide +kernel
theorem dX13_splitAt_21 : decode cX13_splitAt 21 = .ok (.iload_n 1, 1) := by decide +kernel
theorem dX13_splitAt_22 : decode cX13_splitAt 22 = .ok (.iconst 1, 1) := by decide +kernel
theorem dX13_splitAt_23 : decode cX13_splitAt 23 = .ok (.isub, 1) := by decide +kernel
theorem dX13_splitAt_24 : decode cX13_splitAt 24 = .ok (.i2l, 1) := by decide +kernel
theorem dX13_splitAt_25 : decode cX13_splitAt 25 = .ok (.invokestatic 86, 3) := by decide +kernel
theorem dX13_splitAt_28 : decode cX13_splitAt 28 = .ok (.ifCond .ne 6, 3) := by decide +kernel
theorem dX13_splitAt_31 : decode cX13_splitAt 31 = .ok (.bipush (-2), 2) := by decide +kernel
theorem dX13_splitAt_33 : decode cX13_splitAt 33 = .ok (.ireturn, 1) := by decide +kernel
theorem dX13_splitAt_34 : decode cX13_splitAt 34 = .ok (.aload_n 0, 1) := by decide +kernel
theorem dX13_splitAt_35 : decode cX13_splitAt 35 = .ok (.iload_n 1, 1) := by decide +kernel
theorem dX13_splitAt_36 : decode cX13_splitAt 36 = .ok (.invokevirtual 383, 3) := by decide +kernel
theorem dX13_splitAt_39 : decode cX13_splitAt 39 = .ok (.aload_n 0, 1) := by decide +kernel
theorem dX13_splitAt_40 : decode cX13_splitAt 40 = .ok (.getfield 188, 3) := by decide +kernel
theorem dX13_splitAt_43 : decode cX13_splitAt 43 = .ok (.istore_n 3, 1) := by decide +kernel
theorem dX13_splitAt_44 : decode cX13_splitAt 44 = .ok (.iload_n 1, 1) := by decide +kernel
theorem dX13_splitAt_45 : decode cX13_splitAt 45 = .ok (.istore 4, 2) := by decide +kernel
theorem dX13_splitAt_47 : decode cX13_splitAt 47 = .ok (.iload 4, 2) := by decide +kernel
theorem dX13_splitAt_49 : decode cX13_splitAt 49 = .ok (.iload_n 2, 1) := by decide +kernel
theorem dX13_splitAt_50 : decode cX13_splitAt 50 = .ok (.iconst 1, 1) := by decide +kernel
theorem dX13_splitAt_51 : decode cX13_splitAt 51 = .ok (.iadd, 1) := by decide +kernel
theorem dX13_splitAt_52 : decode cX13_splitAt 52 = .ok (.if_icmp .le 22, 3) := by decide +kernel
theorem dX13_splitAt_55 : decode cX13_splitAt 55 = .ok (.aload_n 0, 1) := by decide +kernel
theorem dX13_splitAt_56 : decode cX13_splitAt 56 = .ok (.getfield 68, 3) := by decide +kernel
theorem dX13_splitAt_59 : decode cX13_splitAt 59 = .ok (.bipush 61, 2) := by decide +kernel
theorem dX13_splitAt_61 : decode cX13_splitAt 61 = .ok (.iload_n 3, 1) := by decide +kernel
theorem dX13_splitAt_62 : decode cX13_splitAt 62 = .ok (.imul, 1) := by decide +kernel
theorem dX13_splitAt_63 : decode cX13_splitAt 63 = .ok (.iload 4, 2) := by decide +kernel
theorem dX13_splitAt_65 : decode cX13_splitAt 65 = .ok (.iadd, 1) := by decide +kernel
theorem dX13_splitAt_66 : decode cX13_splitAt 66 = .ok (.iaload, 1) := by decide +kernel
theorem dX13_splitAt_67 : decode cX13_splitAt 67 = .ok (.istore_n 3, 1) := by decide +kernel
theorem dX13_splitAt_68 : decode cX13_splitAt 68 = .ok (.iinc 4 (-1), 3) := by decide +kernel
theorem dX13_splitAt_71 : decode cX13_splitAt 71 = .ok (.goto (-24), 3) := by decide +kernel
theorem dX13_splitAt_74 : decode cX13_splitAt 74 = .ok (.aload_n 0, 1) := by decide +kernel
theorem dX13_splitAt_75 : decode cX13_splitAt 75 = .ok (.getfield 48, 3) := by decide +kernel
theorem dX13_splitAt_78 : decode cX13_splitAt 78 = .ok (.aload_n 0, 1) := by decide +kernel
theorem dX13_splitAt_79 : decode cX13_splitAt 79 = .ok (.getfield 68, 3) := by decide +kernel
theorem dX13_splitAt_82 : decode cX13_splitAt 82 = .ok (.bipush 61, 2) := by decide +kernel
theorem dX13_splitAt_84 : decode cX13_splitAt 84 = .ok (.iload_n 3, 1) := by decide +kernel
theorem dX13_splitAt_85 : decode cX13_splitAt 85 = .ok (.imul, 1) := by decide +kernel
theorem dX13_splitAt_86 : decode cX13_splitAt 86 = .ok (.iload_n 2, 1) := by decide +kernel
theorem dX13_splitAt_87 : decode cX13_splitAt 87 = .ok (.iadd, 1) := by decide +kernel
theorem dX13_splitAt_88 : decode cX13_splitAt 88 = .ok (.iconst 1, 1) := by decide +kernel
theorem dX13_splitAt_89 : decode cX13_splitAt 89 = .ok (.iadd, 1) := by decide +kernel
theorem dX13_splitAt_90 : decode cX13_splitAt 90 = .ok (.iaload, 1) := by decide +kernel
theorem dX13_splitAt_91 : decode cX13_splitAt 91 = .ok (.iaload, 1) := by decide +kernel
theorem dX13_splitAt_92 : decode cX13_splitAt 92 = .ok (.ireturn, 1) := by decide +kernel
theorem dX13_says_0 : decode cX13_says 0 = .ok (.aload_n 0, 1) := by decide +kernel
theorem dX13_says_1 : decode cX13_says 1 = .ok (.getfield 71, 3) := by decide +kernel
theorem dX13_says_4 : decode cX13_says 4 = .ok (.aload_n 0, 1) := by decide +kernel
theorem dX13_says_5 : decode cX13_says 5 = .ok (.getfield 252, 3) := by decide +kernel
theorem dX13_says_8 : decode cX13_says 8 = .ok (.iload_n 1, 1) := by decide +kernel
theorem dX13_says_9 : decode cX13_says 9 = .ok (.iastore, 1) := by decide +kernel
theorem dX13_says_10 : decode cX13_says 10 = .ok (.aload_n 0, 1) := by decide +kernel
theorem dX13_says_11 : decode cX13_says 11 = .ok (.dup, 1) := by decide +kernel
theorem dX13_says_12 : decode cX13_says 12 = .ok (.getfield 252, 3) := by decide +kernel
theorem dX13_says_15 : decode cX13_says 15 = .ok (.iconst 1, 1) := by decide +kernel
theorem dX13_says_16 : decode cX13_says 16 = .ok (.iadd, 1) := by decide +kernel
theorem dX13_says_17 : decode cX13_says 17 = .ok (.putfield 252, 3) := by decide +kernel
theorem dX13_says_20 : decode cX13_says 20 = .ok (.return_, 1) := by decide +kernel
theorem dX13_saysNumber_0 : decode cX13_saysNumber 0 = .ok (.lload_n 1, 1) := by decide +kernel
theorem dX13_saysNumber_1 : decode cX13_saysNumber 1 = .ok (.ldc2_w 386, 3) := by decide +kernel
theorem dX13_saysNumber_4 : decode cX13_saysNumber 4 = .ok (.lcmp, 1) := by decide +kernel
theorem dX13_saysNumber_5 : decode cX13_saysNumber 5 = .ok (.ifCond .le 12, 3) := by decide +kernel
theorem dX13_saysNumber_8 : decode cX13_saysNumber 8 = .ok (.aload_n 0, 1) := by decide +kernel
theorem dX13_saysNumber_9 : decode cX13_saysNumber 9 = .ok (.lload_n 1, 1) := by decide +kernel
theorem dX13_saysNumber_10 : decode cX13_saysNumber 10 = .ok (.ldc2_w 388, 3) := by decide +kernel
theorem dX13_saysNumber_13 : decode cX13_saysNumber 13 = .ok (.ldiv, 1) := by decide +kernel
theorem dX13_saysNumber_14 : decode cX13_saysNumber 14 = .ok (.invokevirtual 390, 3) := by decide +kernel
theorem dX13_saysNumber_17 : decode cX13_saysNumber 17 = .ok (.aload_n 0, 1) := by decide +kernel
theorem dX13_saysNumber_18 : decode cX13_saysNumber 18 = .ok (.ldc2_w 394, 3) := by decide +kernel
theorem dX13_saysNumber_21 : decode cX13_saysNumber 21 = .ok (.lload_n 1, 1) := by decide +kernel
theorem dX13_saysNumber_22 : decode cX13_saysNumber 22 = .ok (.ldc2_w 388, 3) := by decide +kernel
theorem dX13_saysNumber_25 : decode cX13_saysNumber 25 = .ok (.lrem, 1) := by decide +kernel
theorem dX13_saysNumber_26 : decode cX13_saysNumber 26 = .ok (.ladd, 1) := by decide +kernel
theorem dX13_saysNumber_27 : decode cX13_saysNumber 27 = .ok (.l2i, 1) := by decide +kernel
theorem dX13_saysNumber_28 : decode cX13_saysNumber 28 = .ok (.invokevirtual 396, 3) := by decide +kernel
theorem dX13_saysNumber_31 : decode cX13_saysNumber 31 = .ok (.return_, 1) := by decide +kernel
theorem dX13_tell_0 : decode cX13_tell 0 = .ok (.aload_n 0, 1) := by decide +kernel
theorem dX13_tell_1 : decode cX13_tell 1 = .ok (.invokevirtual 249, 3) := by decide +kernel
theorem dX13_tell_4 : decode cX13_tell 4 = .ok (.aload_n 0, 1) := by decide +kernel
theorem dX13_tell_5 : decode cX13_tell 5 = .ok (.iconst 0, 1) := by decide +kernel
theorem dX13_tell_6 : decode cX13_tell 6 = .ok (.putfield 252, 3) := by decide +kernel
theorem dX13_tell_9 : decode cX13_tell 9 = .ok (.iconst 0, 1) := by decide +kernel
theorem dX13_tell_10 : decode cX13_tell 10 = .ok (.istore_n 1, 1) := by decide +kernel
theorem dX13_tell_11 : decode cX13_tell 11 = .ok (.iload_n 1, 1) := by decide +kernel
theorem dX13_tell_12 : decode cX13_tell 12 = .ok (.aload_n 0, 1) := by decide +kernel
theorem dX13_tell_13 : decode cX13_tell 13 = .ok (.getfield 195, 3) := by decide +kernel
theorem dX13_tell_16 : decode cX13_tell 16 = .ok (.if_icmp .ge 89, 3) := by decide +kernel
theorem dX13_tell_19 : decode cX13_tell 19 = .ok (.aload_n 0, 1) := by decide +kernel
theorem dX13_tell_20 : decode cX13_tell 20 = .ok (.aload_n 0, 1) := by decide +kernel
theorem dX13_tell_21 : decode cX13_tell 21 = .ok (.getfield 48, 3) := by decide +kernel
theorem dX13_tell_24 : decode cX13_tell 24 = .ok (.aload_n 0, 1) := by decide +kernel
theorem dX13_tell_25 : decode cX13_tell 25 = .ok (.getfield 57, 3) := by decide +kernel
theorem dX13_tell_28 : decode cX13_tell 28 = .ok (.iload_n 1, 1) := by decide +kernel
theorem dX13_tell_29 : decode cX13_tell 29 = .ok (.iaload, 1) := by decide +kernel
theorem dX13_tell_30 : decode cX13_tell 30 = .ok (.iaload, 1) := by decide +kernel
theorem dX13_tell_31 : decode cX13_tell 31 = .ok (.i2l, 1) := by decide +kernel
theorem dX13_tell_32 : decode cX13_tell 32 = .ok (.invokevirtual 390, 3) := by decide +kernel
theorem dX13_tell_35 : decode cX13_tell 35 = .ok (.aload_n 0, 1) := by decide +kernel
theorem dX13_tell_36 : decode cX13_tell 36 = .ok (.bipush 45, 2) := by decide +kernel
theorem dX13_tell_38 : decode cX13_tell 38 = .ok (.invokevirtual 396, 3) := by decide +kernel
theorem dX13_tell_41 : decode cX13_tell 41 = .ok (.aload_n 0, 1) := by decide +kernel
theorem dX13_tell_42 : decode cX13_tell 42 = .ok (.aload_n 0, 1) := by decide +kernel
theorem dX13_tell_43 : decode cX13_tell 43 = .ok (.getfield 48, 3) := by decide +kernel
theorem dX13_tell_46 : decode cX13_tell 46 = .ok (.aload_n 0, 1) := by decide +kernel
theorem dX13_tell_47 : decode cX13_tell 47 = .ok (.getfield 57, 3) := by decide +kernel
theorem dX13_tell_50 : decode cX13_tell 50 = .ok (.iload_n 1, 1) := by decide +kernel
theorem dX13_tell_51 : decode cX13_tell 51 = .ok (.iconst 1, 1) := by decide +kernel
theorem dX13_tell_52 : decode cX13_tell 52 = .ok (.iadd, 1) := by decide +kernel
theorem dX13_tell_53 : decode cX13_tell 53 = .ok (.iaload, 1) := by decide +kernel
theorem dX13_tell_54 : decode cX13_tell 54 = .ok (.iconst 1, 1) := by decide +kernel
theorem dX13_tell_55 : decode cX13_tell 55 = .ok (.isub, 1) := by decide +kernel
theorem dX13_tell_56 : decode cX13_tell 56 = .ok (.iaload, 1) := by decide +kernel
theorem dX13_tell_57 : decode cX13_tell 57 = .ok (.i2l, 1) := by decide +kernel
theorem dX13_tell_58 : decode cX13_tell 58 = .ok (.invokevirtual 390, 3) := by decide +kernel
theorem dX13_tell_61 : decode cX13_tell 61 = .ok (.aload_n 0, 1) := by decide +kernel
theorem dX13_tell_62 : decode cX13_tell 62 = .ok (.bipush 32, 2) := by decide +kernel
theorem dX13_tell_64 : decode cX13_tell 64 = .ok (.invokevirtual 396, 3) := by decide +kernel
theorem dX13_tell_67 : decode cX13_tell 67 = .ok (.aload_n 0, 1) := by decide +kernel
theorem dX13_tell_68 : decode cX13_tell 68 = .ok (.aload_n 0, 1) := by decide +kernel
theorem dX13_tell_69 : decode cX13_tell 69 = .ok (.iload_n 1, 1) := by decide +kernel
theorem dX13_tell_70 : decode cX13_tell 70 = .ok (.iconst 0, 1) := by decide +kernel
theorem dX13_tell_71 : decode cX13_tell 71 = .ok (.invokevirtual 198, 3) := by decide +kernel
theorem dX13_tell_74 : decode cX13_tell 74 = .ok (.invokevirtual 390, 3) := by decide +kernel
theorem dX13_tell_77 : decode cX13_tell 77 = .ok (.aload_n 0, 1) := by decide +kernel
theorem dX13_tell_78 : decode cX13_tell 78 = .ok (.bipush 32, 2) := by decide +kernel
theorem dX13_tell_80 : decode cX13_tell 80 = .ok (.invokevirtual 396, 3) := by decide +kernel
theorem dX13_tell_83 : decode cX13_tell 83 = .ok (.aload_n 0, 1) := by decide +kernel
theorem dX13_tell_84 : decode cX13_tell 84 = .ok (.aload_n 0, 1) := by decide +kernel
theorem dX13_tell_85 : decode cX13_tell 85 = .ok (.iload_n 1, 1) := by decide +kernel
theorem dX13_tell_86 : decode cX13_tell 86 = .ok (.iconst 1, 1) := by decide +kernel
theorem dX13_tell_87 : decode cX13_tell 87 = .ok (.invokevirtual 198, 3) := by decide +kernel
theorem dX13_tell_90 : decode cX13_tell 90 = .ok (.invokevirtual 390, 3) := by decide +kernel
theorem dX13_tell_93 : decode cX13_tell 93 = .ok (.aload_n 0, 1) := by decide +kernel
theorem dX13_tell_94 : decode cX13_tell 94 = .ok (.bipush 59, 2) := by decide +kernel
theorem dX13_tell_96 : decode cX13_tell 96 = .ok (.invokevirtual 396, 3) := by decide +kernel
theorem dX13_tell_99 : decode cX13_tell 99 = .ok (.iinc 1 1, 3) := by decide +kernel
theorem dX13_tell_102 : decode cX13_tell 102 = .ok (.goto (-91), 3) := by decide +kernel
theorem dX13_tell_105 : decode cX13_tell 105 = .ok (.aload_n 0, 1) := by decide +kernel
theorem dX13_tell_106 : decode cX13_tell 106 = .ok (.getfield 252, 3) := by decide +kernel
theorem dX13_tell_109 : decode cX13_tell 109 = .ok (.ireturn, 1) := by decide +kernel
theorem dX13_octet_0 : decode cX13_octet 0 = .ok (.iload_n 1, 1) := by decide +kernel
theorem dX13_octet_1 : decode cX13_octet 1 = .ok (.i2l, 1) := by decide +kernel
theorem dX13_octet_2 : decode cX13_octet 2 = .ok (.lconst 0, 1) := by decide +kernel
theorem dX13_octet_3 : decode cX13_octet 3 = .ok (.aload_n 0, 1) := by decide +kernel
theorem dX13_octet_4 : decode cX13_octet 4 = .ok (.getfield 252, 3) := by decide +kernel
theorem dX13_octet_7 : decode cX13_octet 7 = .ok (.iconst 1, 1) := by decide +kernel
theorem dX13_octet_8 : decode cX13_octet 8 = .ok (.isub, 1) := by decide +kernel
theorem dX13_octet_9 : decode cX13_octet 9 = .ok (.i2l, 1) := by decide +kernel
theorem dX13_octet_10 : decode cX13_octet 10 = .ok (.invokestatic 86, 3) := by decide +kernel
theorem dX13_octet_13 : decode cX13_octet 13 = .ok (.ifCond .eq 12, 3) := by decide +kernel
theorem dX13_octet_16 : decode cX13_octet 16 = .ok (.aload_n 0, 1) := by decide +kernel
theorem dX13_octet_17 : decode cX13_octet 17 = .ok (.getfield 71, 3) := by decide +kernel
theorem dX13_octet_20 : decode cX13_octet 20 = .ok (.iload_n 1, 1) := by decide +kernel
theorem dX13_octet_21 : decode cX13_octet 21 = .ok (.iaload, 1) := by decide +kernel
theorem dX13_octet_22 : decode cX13_octet 22 = .ok (.goto 4, 3) := by decide +kernel
theorem dX13_octet_25 : decode cX13_octet 25 = .ok (.iconst (-1), 1) := by decide +kernel
theorem dX13_octet_26 : decode cX13_octet 26 = .ok (.ireturn, 1) := by decide +kernel
theorem dX13_remembers_0 : decode cX13_remembers 0 = .ok (.iconst 0, 1) := by decide +kernel
theorem dX13_remembers_1 : decode cX13_remembers 1 = .ok (.istore_n 1, 1) := by decide +kernel
theorem dX13_remembers_2 : decode cX13_remembers 2 = .ok (.iload_n 1, 1) := by decide +kernel
theorem dX13_remembers_3 : decode cX13_remembers 3 = .ok (.sipush 3206, 3) := by decide +kernel
theorem dX13_remembers_6 : decode cX13_remembers 6 = .ok (.if_icmp .ge 21, 3) := by decide +kernel
theorem dX13_remembers_9 : decode cX13_remembers 9 = .ok (.aload_n 0, 1) := by decide +kernel
theorem dX13_remembers_10 : decode cX13_remembers 10 = .ok (.getfield 22, 3) := by decide +kernel
theorem dX13_remembers_13 : decode cX13_remembers 13 = .ok (.iload_n 1, 1) := by decide +kernel
theorem dX13_remembers_14 : decode cX13_remembers 14 = .ok (.aload_n 0, 1) := by decide +kernel
theorem dX13_remembers_15 : decode cX13_remembers 15 = .ok (.getfield 15, 3) := by decide +kernel
theorem dX13_remembers_18 : decode cX13_remembers 18 = .ok (.iload_n 1, 1) := by decide +kernel
theorem dX13_remembers_19 : decode cX13_remembers 19 = .ok (.iaload, 1) := by decide +kernel
theorem dX13_remembers_20 : decode cX13_remembers 20 = .ok (.iastore, 1) := by decide +kernel
theorem dX13_remembers_21 : decode cX13_remembers 21 = .ok (.iinc 1 1, 3) := by decide +kernel
theorem dX13_remembers_24 : decode cX13_remembers 24 = .ok (.goto (-22), 3) := by decide +kernel
theorem dX13_remembers_27 : decode cX13_remembers 27 = .ok (.return_, 1) := by decide +kernel
theorem dX13_forgets_0 : decode cX13_forgets 0 = .ok (.iconst 0, 1) := by decide +kernel
theorem dX13_forgets_1 : decode cX13_forgets 1 = .ok (.istore_n 1, 1) := by decide +kernel
theorem dX13_forgets_2 : decode cX13_forgets 2 = .ok (.iload_n 1, 1) := by decide +kernel
theorem dX13_forgets_3 : decode cX13_forgets 3 = .ok (.sipush 3206, 3) := by decide +kernel
theorem dX13_forgets_6 : decode cX13_forgets 6 = .ok (.if_icmp .ge 21, 3) := by decide +kernel
theorem dX13_forgets_9 : decode cX13_forgets 9 = .ok (.aload_n 0, 1) := by decide +kernel
theorem dX13_forgets_10 : decode cX13_forgets 10 = .ok (.getfield 15, 3) := by decide +kernel
theorem dX13_forgets_13 : decode cX13_forgets 13 = .ok (.iload_n 1, 1) := by decide +kernel
theorem dX13_forgets_14 : decode cX13_forgets 14 = .ok (.aload_n 0, 1) := by decide +kernel
theorem dX13_forgets_15 : decode cX13_forgets 15 = .ok (.getfield 22, 3) := by decide +kernel
theorem dX13_forgets_18 : decode cX13_forgets 18 = .ok (.iload_n 1, 1) := by decide +kernel
theorem dX13_forgets_19 : decode cX13_forgets 19 = .ok (.iaload, 1) := by decide +kernel
theorem dX13_forgets_20 : decode cX13_forgets 20 = .ok (.iastore, 1) := by decide +kernel
theorem dX13_forgets_21 : decode cX13_forgets 21 = .ok (.iinc 1 1, 3) := by decide +kernel
theorem dX13_forgets_24 : decode cX13_forgets 24 = .ok (.goto (-22), 3) := by decide +kernel
theorem dX13_forgets_27 : decode cX13_forgets 27 = .ok (.return_, 1) := by decide +kernel
theorem dX13_keeps_0 : decode cX13_keeps 0 = .ok (.iconst 0, 1) := by decide +kernel
theorem dX13_keeps_1 : decode cX13_keeps 1 = .ok (.istore_n 1, 1) := by decide +kernel
theorem dX13_keeps_2 : decode cX13_keeps 2 = .ok (.iconst 0, 1) := by decide +kernel
theorem dX13_keeps_3 : decode cX13_keeps 3 = .ok (.istore_n 2, 1) := by decide +kernel
theorem dX13_keeps_4 : decode cX13_keeps 4 = .ok (.iload_n 2, 1) := by decide +kernel
theorem dX13_keeps_5 : decode cX13_keeps 5 = .ok (.sipush 3206, 3) := by decide +kernel
theorem dX13_keeps_8 : decode cX13_keeps 8 = .ok (.if_icmp .ge 34, 3) := by decide +kernel
theorem dX13_keeps_11 : decode cX13_keeps 11 = .ok (.iload_n 1, 1) := by decide +kernel
theorem dX13_keeps_12 : decode cX13_keeps 12 = .ok (.ifCond .ne 18, 3) := by decide +kernel
theorem dX13_keeps_15 : decode cX13_keeps 15 = .ok (.aload_n 0, 1) := by decide +kernel
theorem dX13_keeps_16 : decode cX13_keeps 16 = .ok (.getfield 15, 3) := by decide +kernel
theorem dX13_keeps_19 : decode cX13_keeps 19 = .ok (.iload_n 2, 1) := by decide +kernel
theorem dX13_keeps_20 : decode cX13_keeps 20 = .ok (.iaload, 1) := by decide +kernel
theorem dX13_keeps_21 : decode cX13_keeps 21 = .ok (.aload_n 0, 1) := by decide +kernel
theorem dX13_keeps_22 : decode cX13_keeps 22 = .ok (.getfield 22, 3) := by decide +kernel
theorem dX13_keeps_25 : decode cX13_keeps 25 = .ok (.iload_n 2, 1) := by decide +kernel
theorem dX13_keeps_26 : decode cX13_keeps 26 = .ok (.iaload, 1) := by decide +kernel
theorem dX13_keeps_27 : decode cX13_keeps 27 = .ok (.if_icmp .eq 7, 3) := by decide +kernel
theorem dX13_keeps_30 : decode cX13_keeps 30 = .ok (.iconst 1, 1) := by decide +kernel
theorem dX13_keeps_31 : decode cX13_keeps 31 = .ok (.goto 4, 3) := by decide +kernel
theorem dX13_keeps_34 : decode cX13_keeps 34 = .ok (.iconst 0, 1) := by decide +kernel
theorem dX13_keeps_35 : decode cX13_keeps 35 = .ok (.istore_n 1, 1) := by decide +kernel
theorem dX13_keeps_36 : decode cX13_keeps 36 = .ok (.iinc 2 1, 3) := by decide +kernel
theorem dX13_keeps_39 : decode cX13_keeps 39 = .ok (.goto (-35), 3) := by decide +kernel
theorem dX13_keeps_42 : decode cX13_keeps 42 = .ok (.iload_n 1, 1) := by decide +kernel
theorem dX13_keeps_43 : decode cX13_keeps 43 = .ok (.ifCond .ne 5, 3) := by decide +kernel
theorem dX13_keeps_46 : decode cX13_keeps 46 = .ok (.iconst 0, 1) := by decide +kernel
theorem dX13_keeps_47 : decode cX13_keeps 47 = .ok (.ireturn, 1) := by decide +kernel
theorem dX13_keeps_48 : decode cX13_keeps 48 = .ok (.aload_n 0, 1) := by decide +kernel
theorem dX13_keeps_49 : decode cX13_keeps 49 = .ok (.getfield 80, 3) := by decide +kernel
theorem dX13_keeps_52 : decode cX13_keeps 52 = .ok (.bipush 10, 2) := by decide +kernel
theorem dX13_keeps_54 : decode cX13_keeps 54 = .ok (.if_icmp .ne 44, 3) := by decide +kernel
theorem dX13_keeps_57 : decode cX13_keeps 57 = .ok (.iconst 0, 1) := by decide +kernel
theorem dX13_keeps_58 : decode cX13_keeps 58 = .ok (.istore_n 2, 1) := by decide +kernel
theorem dX13_keeps_59 : decode cX13_keeps 59 = .ok (.iload_n 2, 1) := by decide +kernel
theorem dX13_keeps_60 : decode cX13_keeps 60 = .ok (.sipush 28854, 3) := by decide +kernel
theorem dX13_keeps_63 : decode cX13_keeps 63 = .ok (.if_icmp .ge 25, 3) := by decide +kernel
theorem dX13_keeps_66 : decode cX13_keeps 66 = .ok (.aload_n 0, 1) := by decide +kernel
theorem dX13_keeps_67 : decode cX13_keeps 67 = .ok (.getfield 19, 3) := by decide +kernel
theorem dX13_keeps_70 : decode cX13_keeps 70 = .ok (.iload_n 2, 1) := by decide +kernel
theorem dX13_keeps_71 : decode cX13_keeps 71 = .ok (.aload_n 0, 1) := by decide +kernel
theorem dX13_keeps_72 : decode cX13_keeps 72 = .ok (.getfield 19, 3) := by decide +kernel
theorem dX13_keeps_75 : decode cX13_keeps 75 = .ok (.iload_n 2, 1) := by decide +kernel
theorem dX13_keeps_76 : decode cX13_keeps 76 = .ok (.sipush 3206, 3) := by decide +kernel
theorem dX13_keeps_79 : decode cX13_keeps 79 = .ok (.iadd, 1) := by decide +kernel
theorem dX13_keeps_80 : decode cX13_keeps 80 = .ok (.iaload, 1) := by decide +kernel
theorem dX13_keeps_81 : decode cX13_keeps 81 = .ok (.iastore, 1) := by decide +kernel
theorem dX13_keeps_82 : decode cX13_keeps 82 = .ok (.iinc 2 1, 3) := by decide +kernel
theorem dX13_keeps_85 : decode cX13_keeps 85 = .ok (.goto (-26), 3) := by decide +kernel
theorem dX13_keeps_88 : decode cX13_keeps 88 = .ok (.aload_n 0, 1) := by decide +kernel
theorem dX13_keeps_89 : decode cX13_keeps 89 = .ok (.dup, 1) := by decide +kernel
theorem dX13_keeps_90 : decode cX13_keeps 90 = .ok (.getfield 80, 3) := by decide +kernel
theorem dX13_keeps_93 : decode cX13_keeps 93 = .ok (.iconst 1, 1) := by decide +kernel
theorem dX13_keeps_94 : decode cX13_keeps 94 = .ok (.isub, 1) := by decide +kernel
theorem dX13_keeps_95 : decode cX13_keeps 95 = .ok (.putfield 80, 3) := by decide +kernel
theorem dX13_keeps_98 : decode cX13_keeps 98 = .ok (.iconst 0, 1) := by decide +kernel
theorem dX13_keeps_99 : decode cX13_keeps 99 = .ok (.istore_n 2, 1) := by decide +kernel
theorem dX13_keeps_100 : decode cX13_keeps 100 = .ok (.iload_n 2, 1) := by decide +kernel
theorem dX13_keeps_101 : decode cX13_keeps 101 = .ok (.sipush 3206, 3) := by decide +kernel
theorem dX13_keeps_104 : decode cX13_keeps 104 = .ok (.if_icmp .ge 30, 3) := by decide +kernel
theorem dX13_keeps_107 : decode cX13_keeps 107 = .ok (.aload_n 0, 1) := by decide +kernel
theorem dX13_keeps_108 : decode cX13_keeps 108 = .ok (.getfield 19, 3) := by decide +kernel
theorem dX13_keeps_111 : decode cX13_keeps 111 = .ok (.sipush 3206, 3) := by decide +kernel
theorem dX13_keeps_114 : decode cX13_keeps 114 = .ok (.aload_n 0, 1) := by decide +kernel
theorem dX13_keeps_115 : decode cX13_keeps 115 = .ok (.getfield 80, 3) := by decide +kernel
theorem dX13_keeps_118 : decode cX13_keeps 118 = .ok (.imul, 1) := by decide +kernel
theorem dX13_keeps_119 : decode cX13_keeps 119 = .ok (.iload_n 2, 1) := by decide +kernel
theorem dX13_keeps_120 : decode cX13_keeps 120 = .ok (.iadd, 1) := by decide +kernel
theorem dX13_keeps_121 : decode cX13_keeps 121 = .ok (.aload_n 0, 1) := by decide +kernel
theorem dX13_keeps_122 : decode cX13_keeps 122 = .ok (.getfield 22, 3) := by decide +kernel
theorem dX13_keeps_125 : decode cX13_keeps 125 = .ok (.iload_n 2, 1) := by decide +kernel
theorem dX13_keeps_126 : decode cX13_keeps 126 = .ok (.iaload, 1) := by decide +kernel
theorem dX13_keeps_127 : decode cX13_keeps 127 = .ok (.iastore, 1) := by decide +kernel
theorem dX13_keeps_128 : decode cX13_keeps 128 = .ok (.iinc 2 1, 3) := by decide +kernel
theorem dX13_keeps_131 : decode cX13_keeps 131 = .ok (.goto (-31), 3) := by decide +kernel
theorem dX13_keeps_134 : decode cX13_keeps 134 = .ok (.aload_n 0, 1) := by decide +kernel
theorem dX13_keeps_135 : decode cX13_keeps 135 = .ok (.dup, 1) := by decide +kernel
theorem dX13_keeps_136 : decode cX13_keeps 136 = .ok (.getfield 80, 3) := by decide +kernel
theorem dX13_keeps_139 : decode cX13_keeps 139 = .ok (.iconst 1, 1) := by decide +kernel
theorem dX13_keeps_140 : decode cX13_keeps 140 = .ok (.iadd, 1) := by decide +kernel
theorem dX13_keeps_141 : decode cX13_keeps 141 = .ok (.putfield 80, 3) := by decide +kernel
theorem dX13_keeps_144 : decode cX13_keeps 144 = .ok (.iconst 1, 1) := by decide +kernel
theorem dX13_keeps_145 : decode cX13_keeps 145 = .ok (.ireturn, 1) := by decide +kernel
theorem dX13_undo_0 : decode cX13_undo 0 = .ok (.aload_n 0, 1) := by decide +kernel
theorem dX13_undo_1 : decode cX13_undo 1 = .ok (.getfield 80, 3) := by decide +kernel
theorem dX13_undo_4 : decode cX13_undo 4 = .ok (.ifCond .ne 5, 3) := by decide +kernel
theorem dX13_undo_7 : decode cX13_undo 7 = .ok (.iconst (-1), 1) := by decide +kernel
theorem dX13_undo_8 : decode cX13_undo 8 = .ok (.ireturn, 1) := by decide +kernel
theorem dX13_undo_9 : decode cX13_undo 9 = .ok (.aload_n 0, 1) := by decide +kernel
theorem dX13_undo_10 : decode cX13_undo 10 = .ok (.dup, 1) := by decide +kernel
theorem dX13_undo_11 : decode cX13_undo 11 = .ok (.getfield 80, 3) := by decide +kernel
theorem dX13_undo_14 : decode cX13_undo 14 = .ok (.iconst 1, 1) := by decide +kernel
theorem dX13_undo_15 : decode cX13_undo 15 = .ok (.isub, 1) := by decide +kernel
theorem dX13_undo_16 : decode cX13_undo 16 = .ok (.putfield 80, 3) := by decide +kernel
theorem dX13_undo_19 : decode cX13_undo 19 = .ok (.iconst 0, 1) := by decide +kernel
theorem dX13_undo_20 : decode cX13_undo 20 = .ok (.istore_n 1, 1) := by decide +kernel
theorem dX13_undo_21 : decode cX13_undo 21 = .ok (.iload_n 1, 1) := by decide +kernel
theorem dX13_undo_22 : decode cX13_undo 22 = .ok (.sipush 3206, 3) := by decide +kernel
theorem dX13_undo_25 : decode cX13_undo 25 = .ok (.if_icmp .ge 30, 3) := by decide +kernel
theorem dX13_undo_28 : decode cX13_undo 28 = .ok (.aload_n 0, 1) := by decide +kernel
theorem dX13_undo_29 : decode cX13_undo 29 = .ok (.getfield 15, 3) := by decide +kernel
theorem dX13_undo_32 : decode cX13_undo 32 = .ok (.iload_n 1, 1) := by decide +kernel
theorem dX13_undo_33 : decode cX13_undo 33 = .ok (.aload_n 0, 1) := by decide +kernel
theorem dX13_undo_34 : decode cX13_undo 34 = .ok (.getfield 19, 3) := by decide +kernel
theorem dX13_undo_37 : decode cX13_undo 37 = .ok (.sipush 3206, 3) := by decide +kernel
theorem dX13_undo_40 : decode cX13_undo 40 = .ok (.aload_n 0, 1) := by decide +kernel
theorem dX13_undo_41 : decode cX13_undo 41 = .ok (.getfield 80, 3) := by decide +kernel
theorem dX13_undo_44 : decode cX13_undo 44 = .ok (.imul, 1) := by decide +kernel
theorem dX13_undo_45 : decode cX13_undo 45 = .ok (.iload_n 1, 1) := by decide +kernel
theorem dX13_undo_46 : decode cX13_undo 46 = .ok (.iadd, 1) := by decide +kernel
theorem dX13_undo_47 : decode cX13_undo 47 = .ok (.iaload, 1) := by decide +kernel
theorem dX13_undo_48 : decode cX13_undo 48 = .ok (.iastore, 1) := by decide +kernel
theorem dX13_undo_49 : decode cX13_undo 49 = .ok (.iinc 1 1, 3) := by decide +kernel
theorem dX13_undo_52 : decode cX13_undo 52 = .ok (.goto (-31), 3) := by decide +kernel
theorem dX13_undo_55 : decode cX13_undo 55 = .ok (.aload_n 0, 1) := by decide +kernel
theorem dX13_undo_56 : decode cX13_undo 56 = .ok (.getfield 80, 3) := by decide +kernel
theorem dX13_undo_59 : decode cX13_undo 59 = .ok (.ireturn, 1) := by decide +kernel
theorem dX13_isScore_0 : decode cX13_isScore 0 = .ok (.iload_n 0, 1) := by decide +kernel
theorem dX13_isScore_1 : decode cX13_isScore 1 = .ok (.i2l, 1) := by decide +kernel
theorem dX13_isScore_2 : decode cX13_isScore 2 = .ok (.lconst 0, 1) := by decide +kernel
theorem dX13_isScore_3 : decode cX13_isScore 3 = .ok (.ldc2_w 149, 3) := by decide +kernel
theorem dX13_isScore_6 : decode cX13_isScore 6 = .ok (.invokestatic 86, 3) := by decide +kernel
theorem dX13_isScore_9 : decode cX13_isScore 9 = .ok (.ireturn, 1) := by decide +kernel
theorem dX13_open_0 : decode cX13_open 0 = .ok (.iload_n 1, 1) := by decide +kernel
theorem dX13_open_1 : decode cX13_open 1 = .ok (.invokestatic 399, 3) := by decide +kernel
theorem dX13_open_4 : decode cX13_open 4 = .ok (.ifCond .eq 16, 3) := by decide +kernel
theorem dX13_open_7 : decode cX13_open 7 = .ok (.aload_n 0, 1) := by decide +kernel
theorem dX13_open_8 : decode cX13_open 8 = .ok (.getfield 15, 3) := by decide +kernel
theorem dX13_open_11 : decode cX13_open 11 = .ok (.sipush 2000, 3) := by decide +kernel
theorem dX13_open_14 : decode cX13_open 14 = .ok (.iload_n 1, 1) := by decide +kernel
theorem dX13_open_15 : decode cX13_open 15 = .ok (.iadd, 1) := by decide +kernel
theorem dX13_open_16 : decode cX13_open 16 = .ok (.iaload, 1) := by decide +kernel
theorem dX13_open_17 : decode cX13_open 17 = .ok (.goto 5, 3) := by decide +kernel
theorem dX13_open_20 : decode cX13_open 20 = .ok (.bipush (-2), 2) := by decide +kernel
theorem dX13_open_22 : decode cX13_open 22 = .ok (.ireturn, 1) := by decide +kernel
theorem dX13_canBe_0 : decode cX13_canBe 0 = .ok (.iconst 0, 1) := by decide +kernel
theorem dX13_canBe_1 : decode cX13_canBe 1 = .ok (.istore_n 1, 1) := by decide +kernel
theorem dX13_canBe_2 : decode cX13_canBe 2 = .ok (.iconst 0, 1) := by decide +kernel
theorem dX13_canBe_3 : decode cX13_canBe 3 = .ok (.istore_n 2, 1) := by decide +kernel
theorem dX13_canBe_4 : decode cX13_canBe 4 = .ok (.iload_n 2, 1) := by decide +kernel
theorem dX13_canBe_5 : decode cX13_canBe 5 = .ok (.sipush 1000, 3) := by decide +kernel
theorem dX13_canBe_8 : decode cX13_canBe 8 = .ok (.if_icmp .ge 81, 3) := by decide +kernel
theorem dX13_canBe_11 : decode cX13_canBe 11 = .ok (.aload_n 0, 1) := by decide +kernel
theorem dX13_canBe_12 : decode cX13_canBe 12 = .ok (.getfield 15, 3) := by decide +kernel
theorem dX13_canBe_15 : decode cX13_canBe 15 = .ok (.iconst 0, 1) := by decide +kernel
theorem dX13_canBe_16 : decode cX13_canBe 16 = .ok (.iload_n 2, 1) := by decide +kernel
theorem dX13_canBe_17 : decode cX13_canBe 17 = .ok (.iadd, 1) := by decide +kernel
theorem dX13_canBe_18 : decode cX13_canBe 18 = .ok (.iaload, 1) := by decide +kernel
theorem dX13_canBe_19 : decode cX13_canBe 19 = .ok (.i2l, 1) := by decide +kernel
theorem dX13_canBe_20 : decode cX13_canBe 20 = .ok (.lconst 0, 1) := by decide +kernel
theorem dX13_canBe_21 : decode cX13_canBe 21 = .ok (.ldc2_w 402, 3) := by decide +kernel
theorem dX13_canBe_24 : decode cX13_canBe 24 = .ok (.invokestatic 86, 3) := by decide +kernel
theorem dX13_canBe_27 : decode cX13_canBe 27 = .ok (.ifCond .eq 24, 3) := by decide +kernel
theorem dX13_canBe_30 : decode cX13_canBe 30 = .ok (.aload_n 0, 1) := by decide +kernel
theorem dX13_canBe_31 : decode cX13_canBe 31 = .ok (.getfield 15, 3) := by decide +kernel
theorem dX13_canBe_34 : decode cX13_canBe 34 = .ok (.sipush 1000, 3) := by decide +kernel
theorem dX13_canBe_37 : decode cX13_canBe 37 = .ok (.iload_n 2, 1) := by decide +kernel
theorem dX13_canBe_38 : decode cX13_canBe 38 = .ok (.iadd, 1) := by decide +kernel
theorem dX13_canBe_39 : decode cX13_canBe 39 = .ok (.iaload, 1) := by decide +kernel
theorem dX13_canBe_40 : decode cX13_canBe 40 = .ok (.i2l, 1) := by decide +kernel
theorem dX13_canBe_41 : decode cX13_canBe 41 = .ok (.lconst 0, 1) := by decide +kernel
theorem dX13_canBe_42 : decode cX13_canBe 42 = .ok (.ldc2_w 402, 3) := by decide +kernel
theorem dX13_canBe_45 : decode cX13_canBe 45 = .ok (.invokestatic 86, 3) := by decide +kernel
theorem dX13_canBe_48 : decode cX13_canBe 48 = .ok (.ifCond .ne 5, 3) := by decide +kernel
theorem dX13_canBe_51 : decode cX13_canBe 51 = .ok (.iconst 0, 1) := by decide +kernel
theorem dX13_canBe_52 : decode cX13_canBe 52 = .ok (.ireturn, 1) := by decide +kernel
theorem dX13_canBe_53 : decode cX13_canBe 53 = .ok (.iload_n 1, 1) := by decide +kernel
theorem dX13_canBe_54 : decode cX13_canBe 54 = .ok (.aload_n 0, 1) := by decide +kernel
theorem dX13_canBe_55 : decode cX13_canBe 55 = .ok (.getfield 15, 3) := by decide +kernel
theorem dX13_canBe_58 : decode cX13_canBe 58 = .ok (.iconst 0, 1) := by decide +kernel
theorem dX13_canBe_59 : decode cX13_canBe 59 = .ok (.iload_n 2, 1) := by decide +kernel
theorem dX13_canBe_60 : decode cX13_canBe 60 = .ok (.iadd, 1) := by decide +kernel
theorem dX13_canBe_61 : decode cX13_canBe 61 = .ok (.iaload, 1) := by decide +kernel
theorem dX13_canBe_62 : decode cX13_canBe 62 = .ok (.aload_n 0, 1) := by decide +kernel
theorem dX13_canBe_63 : decode cX13_canBe 63 = .ok (.getfield 15, 3) := by decide +kernel
theorem dX13_canBe_66 : decode cX13_canBe 66 = .ok (.sipush 1000, 3) := by decide +kernel
theorem dX13_canBe_69 : decode cX13_canBe 69 = .ok (.iload_n 2, 1) := by decide +kernel
theorem dX13_canBe_70 : decode cX13_canBe 70 = .ok (.iadd, 1) := by decide +kernel
theorem dX13_canBe_71 : decode cX13_canBe 71 = .ok (.iaload, 1) := by decide +kernel
theorem dX13_canBe_72 : decode cX13_canBe 72 = .ok (.iadd, 1) := by decide +kernel
theorem dX13_canBe_73 : decode cX13_canBe 73 = .ok (.ifCond .le 7, 3) := by decide +kernel
theorem dX13_canBe_76 : decode cX13_canBe 76 = .ok (.iconst 1, 1) := by decide +kernel
theorem dX13_canBe_77 : decode cX13_canBe 77 = .ok (.goto 4, 3) := by decide +kernel
theorem dX13_canBe_80 : decode cX13_canBe 80 = .ok (.iconst 0, 1) := by decide +kernel
theorem dX13_canBe_81 : decode cX13_canBe 81 = .ok (.iadd, 1) := by decide +kernel
theorem dX13_canBe_82 : decode cX13_canBe 82 = .ok (.istore_n 1, 1) := by decide +kernel
theorem dX13_canBe_83 : decode cX13_canBe 83 = .ok (.iinc 2 1, 3) := by decide +kernel
theorem dX13_canBe_86 : decode cX13_canBe 86 = .ok (.goto (-82), 3) := by decide +kernel
theorem dX13_canBe_89 : decode cX13_canBe 89 = .ok (.iload_n 1, 1) := by decide +kernel
theorem dX13_canBe_90 : decode cX13_canBe 90 = .ok (.bipush 60, 2) := by decide +kernel
theorem dX13_canBe_92 : decode cX13_canBe 92 = .ok (.if_icmp .gt 7, 3) := by decide +kernel
theorem dX13_canBe_95 : decode cX13_canBe 95 = .ok (.iconst 1, 1) := by decide +kernel
theorem dX13_canBe_96 : decode cX13_canBe 96 = .ok (.goto 4, 3) := by decide +kernel
theorem dX13_canBe_99 : decode cX13_canBe 99 = .ok (.iconst 0, 1) := by decide +kernel
theorem dX13_canBe_100 : decode cX13_canBe 100 = .ok (.ireturn, 1) := by decide +kernel
theorem dX13_ends_0 : decode cX13_ends 0 = .ok (.aload_n 0, 1) := by decide +kernel
theorem dX13_ends_1 : decode cX13_ends 1 = .ok (.invokevirtual 404, 3) := by decide +kernel
theorem dX13_ends_4 : decode cX13_ends 4 = .ok (.ifCond .ne 10, 3) := by decide +kernel
theorem dX13_ends_7 : decode cX13_ends 7 = .ok (.aload_n 0, 1) := by decide +kernel
theorem dX13_ends_8 : decode cX13_ends 8 = .ok (.invokevirtual 407, 3) := by decide +kernel
theorem dX13_ends_11 : decode cX13_ends 11 = .ok (.bipush (-5), 2) := by decide +kernel
theorem dX13_ends_13 : decode cX13_ends 13 = .ok (.ireturn, 1) := by decide +kernel
theorem dX13_ends_14 : decode cX13_ends 14 = .ok (.aload_n 0, 1) := by decide +kernel
theorem dX13_ends_15 : decode cX13_ends 15 = .ok (.invokevirtual 410, 3) := by decide +kernel
theorem dX13_ends_18 : decode cX13_ends 18 = .ok (.pop, 1) := by decide +kernel
theorem dX13_ends_19 : decode cX13_ends 19 = .ok (.iload_n 1, 1) := by decide +kernel
theorem dX13_ends_20 : decode cX13_ends 20 = .ok (.ireturn, 1) := by decide +kernel
theorem dX13_infer_0 : decode cX13_infer 0 = .ok (.iload_n 1, 1) := by decide +kernel
theorem dX13_infer_1 : decode cX13_infer 1 = .ok (.invokestatic 336, 3) := by decide +kernel
theorem dX13_infer_4 : decode cX13_infer 4 = .ok (.ifCond .ne 6, 3) := by decide +kernel
theorem dX13_infer_7 : decode cX13_infer 7 = .ok (.bipush (-2), 2) := by decide +kernel
theorem dX13_infer_9 : decode cX13_infer 9 = .ok (.ireturn, 1) := by decide +kernel
theorem dX13_infer_10 : decode cX13_infer 10 = .ok (.iconst 0, 1) := by decide +kernel
theorem dX13_infer_11 : decode cX13_infer 11 = .ok (.istore_n 2, 1) := by decide +kernel
theorem dX13_infer_12 : decode cX13_infer 12 = .ok (.iconst 0, 1) := by decide +kernel
theorem dX13_infer_13 : decode cX13_infer 13 = .ok (.istore_n 3, 1) := by decide +kernel
theorem dX13_infer_14 : decode cX13_infer 14 = .ok (.iload_n 3, 1) := by decide +kernel
theorem dX13_infer_15 : decode cX13_infer 15 = .ok (.sipush 1000, 3) := by decide +kernel
theorem dX13_infer_18 : decode cX13_infer 18 = .ok (.if_icmp .ge 22, 3) := by decide +kernel
theorem dX13_infer_21 : decode cX13_infer 21 = .ok (.iload_n 2, 1) := by decide +kernel
theorem dX13_infer_22 : decode cX13_infer 22 = .ok (.aload_n 0, 1) := by decide +kernel
theorem dX13_infer_23 : decode cX13_infer 23 = .ok (.getfield 15, 3) := by decide +kernel
theorem dX13_infer_26 : decode cX13_infer 26 = .ok (.sipush 2000, 3) := by decide +kernel
theorem dX13_infer_29 : decode cX13_infer 29 = .ok (.iload_n 3, 1) := by decide +kernel
theorem dX13_infer_30 : decode cX13_infer 30 = .ok (.iadd, 1) := by decide +kernel
theorem dX13_infer_31 : decode cX13_infer 31 = .ok (.iaload, 1) := by decide +kernel
theorem dX13_infer_32 : decode cX13_infer 32 = .ok (.iadd, 1) := by decide +kernel
theorem dX13_infer_33 : decode cX13_infer 33 = .ok (.istore_n 2, 1) := by decide +kernel
theorem dX13_infer_34 : decode cX13_infer 34 = .ok (.iinc 3 1, 3) := by decide +kernel
theorem dX13_infer_37 : decode cX13_infer 37 = .ok (.goto (-23), 3) := by decide +kernel
theorem dX13_infer_40 : decode cX13_infer 40 = .ok (.iload_n 2, 1) := by decide +kernel
theorem dX13_infer_41 : decode cX13_infer 41 = .ok (.ifCond .ne 5, 3) := by decide +kernel
theorem dX13_infer_44 : decode cX13_infer 44 = .ok (.iconst 0, 1) := by decide +kernel
theorem dX13_infer_45 : decode cX13_infer 45 = .ok (.ireturn, 1) := by decide +kernel
theorem dX13_infer_46 : decode cX13_infer 46 = .ok (.aload_n 0, 1) := by decide +kernel
theorem dX13_infer_47 : decode cX13_infer 47 = .ok (.invokevirtual 249, 3) := by decide +kernel
theorem dX13_infer_50 : decode cX13_infer 50 = .ok (.aload_n 0, 1) := by decide +kernel
theorem dX13_infer_51 : decode cX13_infer 51 = .ok (.getfield 188, 3) := by decide +kernel
theorem dX13_infer_54 : decode cX13_infer 54 = .ok (.ifCond .ne 6, 3) := by decide +kernel
theorem dX13_infer_57 : decode cX13_infer 57 = .ok (.bipush (-5), 2) := by decide +kernel
theorem dX13_infer_59 : decode cX13_infer 59 = .ok (.ireturn, 1) := by decide +kernel
theorem dX13_infer_60 : decode cX13_infer 60 = .ok (.aload_n 0, 1) := by decide +kernel
theorem dX13_infer_61 : decode cX13_infer 61 = .ok (.invokevirtual 413, 3) := by decide +kernel
theorem dX13_infer_64 : decode cX13_infer 64 = .ok (.iconst 0, 1) := by decide +kernel
theorem dX13_infer_65 : decode cX13_infer 65 = .ok (.istore_n 3, 1) := by decide +kernel
theorem dX13_infer_66 : decode cX13_infer 66 = .ok (.iload_n 3, 1) := by decide +kernel
theorem dX13_infer_67 : decode cX13_infer 67 = .ok (.sipush 1000, 3) := by decide +kernel
theorem dX13_infer_70 : decode cX13_infer 70 = .ok (.if_icmp .ge 117, 3) := by decide +kernel
theorem dX13_infer_73 : decode cX13_infer 73 = .ok (.aload_n 0, 1) := by decide +kernel
theorem dX13_infer_74 : decode cX13_infer 74 = .ok (.iload_n 3, 1) := by decide +kernel
theorem dX13_infer_75 : decode cX13_infer 75 = .ok (.invokevirtual 255, 3) := by decide +kernel
theorem dX13_infer_78 : decode cX13_infer 78 = .ok (.istore 4, 2) := by decide +kernel
theorem dX13_infer_80 : decode cX13_infer 80 = .ok (.aload_n 0, 1) := by decide +kernel
theorem dX13_infer_81 : decode cX13_infer 81 = .ok (.getfield 15, 3) := by decide +kernel
theorem dX13_infer_84 : decode cX13_infer 84 = .ok (.sipush 2000, 3) := by decide +kernel
theorem dX13_infer_87 : decode cX13_infer 87 = .ok (.iload_n 3, 1) := by decide +kernel
theorem dX13_infer_88 : decode cX13_infer 88 = .ok (.iadd, 1) := by decide +kernel
theorem dX13_infer_89 : decode cX13_infer 89 = .ok (.iaload, 1) := by decide +kernel
theorem dX13_infer_90 : decode cX13_infer 90 = .ok (.i2l, 1) := by decide +kernel
theorem dX13_infer_91 : decode cX13_infer 91 = .ok (.aload_n 0, 1) := by decide +kernel
theorem dX13_infer_92 : decode cX13_infer 92 = .ok (.getfield 15, 3) := by decide +kernel
theorem dX13_infer_95 : decode cX13_infer 95 = .ok (.sipush 2000, 3) := by decide +kernel
theorem dX13_infer_98 : decode cX13_infer 98 = .ok (.iload_n 3, 1) := by decide +kernel
theorem dX13_infer_99 : decode cX13_infer 99 = .ok (.iadd, 1) := by decide +kernel
theorem dX13_infer_100 : decode cX13_infer 100 = .ok (.iaload, 1) := by decide +kernel
theorem dX13_infer_101 : decode cX13_infer 101 = .ok (.iload_n 1, 1) := by decide +kernel
theorem dX13_infer_102 : decode cX13_infer 102 = .ok (.imul, 1) := by decide +kernel
theorem dX13_infer_103 : decode cX13_infer 103 = .ok (.i2l, 1) := by decide +kernel
theorem dX13_infer_104 : decode cX13_infer 104 = .ok (.aload_n 0, 1) := by decide +kernel
theorem dX13_infer_105 : decode cX13_infer 105 = .ok (.iload 4, 2) := by decide +kernel
theorem dX13_infer_107 : decode cX13_infer 107 = .ok (.iconst 1, 1) := by decide +kernel
theorem dX13_infer_108 : decode cX13_infer 108 = .ok (.invokevirtual 198, 3) := by decide +kernel
theorem dX13_infer_111 : decode cX13_infer 111 = .ok (.lmul, 1) := by decide +kernel
theorem dX13_infer_112 : decode cX13_infer 112 = .ok (.ldc2_w 416, 3) := by decide +kernel
theorem dX13_infer_115 : decode cX13_infer 115 = .ok (.aload_n 0, 1) := by decide +kernel
theorem dX13_infer_116 : decode cX13_infer 116 = .ok (.iload 4, 2) := by decide +kernel
theorem dX13_infer_118 : decode cX13_infer 118 = .ok (.iconst 2, 1) := by decide +kernel
theorem dX13_infer_119 : decode cX13_infer 119 = .ok (.invokevirtual 198, 3) := by decide +kernel
theorem dX13_infer_122 : decode cX13_infer 122 = .ok (.lmul, 1) := by decide +kernel
theorem dX13_infer_123 : decode cX13_infer 123 = .ok (.ldiv, 1) := by decide +kernel
theorem dX13_infer_124 : decode cX13_infer 124 = .ok (.invokestatic 418, 3) := by decide +kernel
theorem dX13_infer_127 : decode cX13_infer 127 = .ok (.lstore 5, 2) := by decide +kernel
theorem dX13_infer_129 : decode cX13_infer 129 = .ok (.aload_n 0, 1) := by decide +kernel
theorem dX13_infer_130 : decode cX13_infer 130 = .ok (.getfield 15, 3) := by decide +kernel
theorem dX13_infer_133 : decode cX13_infer 133 = .ok (.sipush 1000, 3) := by decide +kernel
theorem dX13_infer_136 : decode cX13_infer 136 = .ok (.iload_n 3, 1) := by decide +kernel
theorem dX13_infer_137 : decode cX13_infer 137 = .ok (.iadd, 1) := by decide +kernel
theorem dX13_infer_138 : decode cX13_infer 138 = .ok (.dup2, 1) := by decide +kernel
theorem dX13_infer_139 : decode cX13_infer 139 = .ok (.iaload, 1) := by decide +kernel
theorem dX13_infer_140 : decode cX13_infer 140 = .ok (.lload 5, 2) := by decide +kernel
theorem dX13_infer_142 : decode cX13_infer 142 = .ok (.l2i, 1) := by decide +kernel
theorem dX13_infer_143 : decode cX13_infer 143 = .ok (.iadd, 1) := by decide +kernel
theorem dX13_infer_144 : decode cX13_infer 144 = .ok (.iastore, 1) := by decide +kernel
theorem dX13_infer_145 : decode cX13_infer 145 = .ok (.aload_n 0, 1) := by decide +kernel
theorem dX13_infer_146 : decode cX13_infer 146 = .ok (.getfield 15, 3) := by decide +kernel
theorem dX13_infer_149 : decode cX13_infer 149 = .ok (.iconst 0, 1) := by decide +kernel
theorem dX13_infer_150 : decode cX13_infer 150 = .ok (.iload_n 3, 1) := by decide +kernel
theorem dX13_infer_151 : decode cX13_infer 151 = .ok (.iadd, 1) := by decide +kernel
theorem dX13_infer_152 : decode cX13_infer 152 = .ok (.dup2, 1) := by decide +kernel
theorem dX13_infer_153 : decode cX13_infer 153 = .ok (.iaload, 1) := by decide +kernel
theorem dX13_infer_154 : decode cX13_infer 154 = .ok (.aload_n 0, 1) := by decide +kernel
theorem dX13_infer_155 : decode cX13_infer 155 = .ok (.getfield 15, 3) := by decide +kernel
theorem dX13_infer_158 : decode cX13_infer 158 = .ok (.sipush 2000, 3) := by decide +kernel
theorem dX13_infer_161 : decode cX13_infer 161 = .ok (.iload_n 3, 1) := by decide +kernel
theorem dX13_infer_162 : decode cX13_infer 162 = .ok (.iadd, 1) := by decide +kernel
theorem dX13_infer_163 : decode cX13_infer 163 = .ok (.iaload, 1) := by decide +kernel
theorem dX13_infer_164 : decode cX13_infer 164 = .ok (.lload 5, 2) := by decide +kernel
theorem dX13_infer_166 : decode cX13_infer 166 = .ok (.l2i, 1) := by decide +kernel
theorem dX13_infer_167 : decode cX13_infer 167 = .ok (.isub, 1) := by decide +kernel
theorem dX13_infer_168 : decode cX13_infer 168 = .ok (.iadd, 1) := by decide +kernel
theorem dX13_infer_169 : decode cX13_infer 169 = .ok (.iastore, 1) := by decide +kernel
theorem dX13_infer_170 : decode cX13_infer 170 = .ok (.aload_n 0, 1) := by decide +kernel
theorem dX13_infer_171 : decode cX13_infer 171 = .ok (.getfield 15, 3) := by decide +kernel
theorem dX13_infer_174 : decode cX13_infer 174 = .ok (.sipush 2000, 3) := by decide +kernel
theorem dX13_infer_177 : decode cX13_infer 177 = .ok (.iload_n 3, 1) := by decide +kernel
theorem dX13_infer_178 : decode cX13_infer 178 = .ok (.iadd, 1) := by decide +kernel
theorem dX13_infer_179 : decode cX13_infer 179 = .ok (.iconst 0, 1) := by decide +kernel
theorem dX13_infer_180 : decode cX13_infer 180 = .ok (.iastore, 1) := by decide +kernel
theorem dX13_infer_181 : decode cX13_infer 181 = .ok (.iinc 3 1, 3) := by decide +kernel
theorem dX13_infer_184 : decode cX13_infer 184 = .ok (.goto (-118), 3) := by decide +kernel
theorem dX13_infer_187 : decode cX13_infer 187 = .ok (.aload_n 0, 1) := by decide +kernel
theorem dX13_infer_188 : decode cX13_infer 188 = .ok (.iload_n 2, 1) := by decide +kernel
theorem dX13_infer_189 : decode cX13_infer 189 = .ok (.invokevirtual 420, 3) := by decide +kernel
theorem dX13_infer_192 : decode cX13_infer 192 = .ok (.ireturn, 1) := by decide +kernel
theorem dX13_advice_0 : decode cX13_advice 0 = .ok (.aload_n 0, 1) := by decide +kernel
theorem dX13_advice_1 : decode cX13_advice 1 = .ok (.invokevirtual 330, 3) := by decide +kernel
theorem dX13_advice_4 : decode cX13_advice 4 = .ok (.iload_n 1, 1) := by decide +kernel
theorem dX13_advice_5 : decode cX13_advice 5 = .ok (.aload_n 0, 1) := by decide +kernel
theorem dX13_advice_6 : decode cX13_advice 6 = .ok (.getfield 320, 3) := by decide +kernel
theorem dX13_advice_9 : decode cX13_advice 9 = .ok (.if_icmp .ge 7, 3) := by decide +kernel
theorem dX13_advice_12 : decode cX13_advice 12 = .ok (.iconst 0, 1) := by decide +kernel
theorem dX13_advice_13 : decode cX13_advice 13 = .ok (.goto 16, 3) := by decide +kernel
theorem dX13_advice_16 : decode cX13_advice 16 = .ok (.iload_n 1, 1) := by decide +kernel
theorem dX13_advice_17 : decode cX13_advice 17 = .ok (.aload_n 0, 1) := by decide +kernel
theorem dX13_advice_18 : decode cX13_advice 18 = .ok (.getfield 323, 3) := by decide +kernel
theorem dX13_advice_21 : decode cX13_advice 21 = .ok (.if_icmp .ge 7, 3) := by decide +kernel
theorem dX13_advice_24 : decode cX13_advice 24 = .ok (.iconst 1, 1) := by decide +kernel
theorem dX13_advice_25 : decode cX13_advice 25 = .ok (.goto 4, 3) := by decide +kernel
theorem dX13_advice_28 : decode cX13_advice 28 = .ok (.iconst 2, 1) := by decide +kernel
theorem dX13_advice_29 : decode cX13_advice 29 = .ok (.ireturn, 1) := by decide +kernel
theorem dX13_decide_0 : decode cX13_decide 0 = .ok (.iload_n 1, 1) := by decide +kernel
theorem dX13_decide_1 : decode cX13_decide 1 = .ok (.invokestatic 399, 3) := by decide +kernel
theorem dX13_decide_4 : decode cX13_decide 4 = .ok (.ifCond .eq 15, 3) := by decide +kernel
theorem dX13_decide_7 : decode cX13_decide 7 = .ok (.iload_n 2, 1) := by decide +kernel
theorem dX13_decide_8 : decode cX13_decide 8 = .ok (.i2l, 1) := by decide +kernel
theorem dX13_decide_9 : decode cX13_decide 9 = .ok (.lconst 0, 1) := by decide +kernel
theorem dX13_decide_10 : decode cX13_decide 10 = .ok (.ldc2_w 291, 3) := by decide +kernel
theorem dX13_decide_13 : decode cX13_decide 13 = .ok (.invokestatic 86, 3) := by decide +kernel
theorem dX13_decide_16 : decode cX13_decide 16 = .ok (.ifCond .ne 6, 3) := by decide +kernel
theorem dX13_decide_19 : decode cX13_decide 19 = .ok (.bipush (-2), 2) := by decide +kernel
theorem dX13_decide_21 : decode cX13_decide 21 = .ok (.ireturn, 1) := by decide +kernel
theorem dX13_decide_22 : decode cX13_decide 22 = .ok (.aload_n 0, 1) := by decide +kernel
theorem dX13_decide_23 : decode cX13_decide 23 = .ok (.getfield 15, 3) := by decide +kernel
theorem dX13_decide_26 : decode cX13_decide 26 = .ok (.sipush 3200, 3) := by decide +kernel
theorem dX13_decide_29 : decode cX13_decide 29 = .ok (.iaload, 1) := by decide +kernel
theorem dX13_decide_30 : decode cX13_decide 30 = .ok (.bipush 40, 2) := by decide +kernel
theorem dX13_decide_32 : decode cX13_decide 32 = .ok (.if_icmp .ne 6, 3) := by decide +kernel
theorem dX13_decide_35 : decode cX13_decide 35 = .ok (.bipush (-5), 2) := by decide +kernel
theorem dX13_decide_37 : decode cX13_decide 37 = .ok (.ireturn, 1) := by decide +kernel
theorem dX13_decide_38 : decode cX13_decide 38 = .ok (.aload_n 0, 1) := by decide +kernel
theorem dX13_decide_39 : decode cX13_decide 39 = .ok (.invokevirtual 413, 3) := by decide +kernel
theorem dX13_decide_42 : decode cX13_decide 42 = .ok (.sipush 3000, 3) := by decide +kernel
theorem dX13_decide_45 : decode cX13_decide 45 = .ok (.iconst 5, 1) := by decide +kernel
theorem dX13_decide_46 : decode cX13_decide 46 = .ok (.aload_n 0, 1) := by decide +kernel
theorem dX13_decide_47 : decode cX13_decide 47 = .ok (.getfield 15, 3) := by decide +kernel
theorem dX13_decide_50 : decode cX13_decide 50 = .ok (.sipush 3200, 3) := by decide +kernel
theorem dX13_decide_53 : decode cX13_decide 53 = .ok (.iaload, 1) := by decide +kernel
theorem dX13_decide_54 : decode cX13_decide 54 = .ok (.imul, 1) := by decide +kernel
theorem dX13_decide_55 : decode cX13_decide 55 = .ok (.iadd, 1) := by decide +kernel
theorem dX13_decide_56 : decode cX13_decide 56 = .ok (.istore_n 3, 1) := by decide +kernel
theorem dX13_decide_57 : decode cX13_decide 57 = .ok (.aload_n 0, 1) := by decide +kernel
theorem dX13_decide_58 : decode cX13_decide 58 = .ok (.getfield 15, 3) := by decide +kernel
theorem dX13_decide_61 : decode cX13_decide 61 = .ok (.iload_n 3, 1) := by decide +kernel
theorem dX13_decide_62 : decode cX13_decide 62 = .ok (.iload_n 1, 1) := by decide +kernel
theorem dX13_decide_63 : decode cX13_decide 63 = .ok (.iastore, 1) := by decide +kernel
theorem dX13_decide_64 : decode cX13_decide 64 = .ok (.aload_n 0, 1) := by decide +kernel
theorem dX13_decide_65 : decode cX13_decide 65 = .ok (.getfield 15, 3) := by decide +kernel
theorem dX13_decide_68 : decode cX13_decide 68 = .ok (.iload_n 3, 1) := by decide +kernel
theorem dX13_decide_69 : decode cX13_decide 69 = .ok (.iconst 1, 1) := by decide +kernel
theorem dX13_decide_70 : decode cX13_decide 70 = .ok (.iadd, 1) := by decide +kernel
theorem dX13_decide_71 : decode cX13_decide 71 = .ok (.iload_n 2, 1) := by decide +kernel
theorem dX13_decide_72 : decode cX13_decide 72 = .ok (.iastore, 1) := by decide +kernel
theorem dX13_decide_73 : decode cX13_decide 73 = .ok (.aload_n 0, 1) := by decide +kernel
theorem dX13_decide_74 : decode cX13_decide 74 = .ok (.getfield 15, 3) := by decide +kernel
theorem dX13_decide_77 : decode cX13_decide 77 = .ok (.iload_n 3, 1) := by decide +kernel
theorem dX13_decide_78 : decode cX13_decide 78 = .ok (.iconst 2, 1) := by decide +kernel
theorem dX13_decide_79 : decode cX13_decide 79 = .ok (.iadd, 1) := by decide +kernel
theorem dX13_decide_80 : decode cX13_decide 80 = .ok (.aload_n 0, 1) := by decide +kernel
theorem dX13_decide_81 : decode cX13_decide 81 = .ok (.iload_n 1, 1) := by decide +kernel
theorem dX13_decide_82 : decode cX13_decide 82 = .ok (.invokevirtual 423, 3) := by decide +kernel
theorem dX13_decide_85 : decode cX13_decide 85 = .ok (.iastore, 1) := by decide +kernel
theorem dX13_decide_86 : decode cX13_decide 86 = .ok (.aload_n 0, 1) := by decide +kernel
theorem dX13_decide_87 : decode cX13_decide 87 = .ok (.getfield 15, 3) := by decide +kernel
theorem dX13_decide_90 : decode cX13_decide 90 = .ok (.iload_n 3, 1) := by decide +kernel
theorem dX13_decide_91 : decode cX13_decide 91 = .ok (.iconst 3, 1) := by decide +kernel
theorem dX13_decide_92 : decode cX13_decide 92 = .ok (.iadd, 1) := by decide +kernel
theorem dX13_decide_93 : decode cX13_decide 93 = .ok (.iconst (-1), 1) := by decide +kernel
theorem dX13_decide_94 : decode cX13_decide 94 = .ok (.iastore, 1) := by decide +kernel
theorem dX13_decide_95 : decode cX13_decide 95 = .ok (.aload_n 0, 1) := by decide +kernel
theorem dX13_decide_96 : decode cX13_decide 96 = .ok (.getfield 15, 3) := by decide +kernel
theorem dX13_decide_99 : decode cX13_decide 99 = .ok (.iload_n 3, 1) := by decide +kernel
theorem dX13_decide_100 : decode cX13_decide 100 = .ok (.iconst 4, 1) := by decide +kernel
theorem dX13_decide_101 : decode cX13_decide 101 = .ok (.iadd, 1) := by decide +kernel
theorem dX13_decide_102 : decode cX13_decide 102 = .ok (.iconst 0, 1) := by decide +kernel
theorem dX13_decide_103 : decode cX13_decide 103 = .ok (.iastore, 1) := by decide +kernel
theorem dX13_decide_104 : decode cX13_decide 104 = .ok (.aload_n 0, 1) := by decide +kernel
theorem dX13_decide_105 : decode cX13_decide 105 = .ok (.getfield 15, 3) := by decide +kernel
theorem dX13_decide_108 : decode cX13_decide 108 = .ok (.sipush 3200, 3) := by decide +kernel
theorem dX13_decide_111 : decode cX13_decide 111 = .ok (.dup2, 1) := by decide +kernel
theorem dX13_decide_112 : decode cX13_decide 112 = .ok (.iaload, 1) := by decide +kernel
theorem dX13_decide_113 : decode cX13_decide 113 = .ok (.iconst 1, 1) := by decide +kernel
theorem dX13_decide_114 : decode cX13_decide 114 = .ok (.iadd, 1) := by decide +kernel
theorem dX13_decide_115 : decode cX13_decide 115 = .ok (.iastore, 1) := by decide +kernel
theorem dX13_decide_116 : decode cX13_decide 116 = .ok (.aload_n 0, 1) := by decide +kernel
theorem dX13_decide_117 : decode cX13_decide 117 = .ok (.invokevirtual 410, 3) := by decide +kernel
theorem dX13_decide_120 : decode cX13_decide 120 = .ok (.pop, 1) := by decide +kernel
theorem dX13_decide_121 : decode cX13_decide 121 = .ok (.aload_n 0, 1) := by decide +kernel
theorem dX13_decide_122 : decode cX13_decide 122 = .ok (.getfield 15, 3) := by decide +kernel
theorem dX13_decide_125 : decode cX13_decide 125 = .ok (.sipush 3200, 3) := by decide +kernel
theorem dX13_decide_128 : decode cX13_decide 128 = .ok (.iaload, 1) := by decide +kernel
theorem dX13_decide_129 : decode cX13_decide 129 = .ok (.iconst 1, 1) := by decide +kernel
theorem dX13_decide_130 : decode cX13_decide 130 = .ok (.isub, 1) := by decide +kernel
theorem dX13_decide_131 : decode cX13_decide 131 = .ok (.ireturn, 1) := by decide +kernel
theorem dX13_isDecision_0 : decode cX13_isDecision 0 = .ok (.iload_n 1, 1) := by decide +kernel
theorem dX13_isDecision_1 : decode cX13_isDecision 1 = .ok (.i2l, 1) := by decide +kernel
theorem dX13_isDecision_2 : decode cX13_isDecision 2 = .ok (.lconst 0, 1) := by decide +kernel
theorem dX13_isDecision_3 : decode cX13_isDecision 3 = .ok (.aload_n 0, 1) := by decide +kernel
theorem dX13_isDecision_4 : decode cX13_isDecision 4 = .ok (.getfield 15, 3) := by decide +kernel
theorem dX13_isDecision_7 : decode cX13_isDecision 7 = .ok (.sipush 3200, 3) := by decide +kernel
theorem dX13_isDecision_10 : decode cX13_isDecision 10 = .ok (.iaload, 1) := by decide +kernel
theorem dX13_isDecision_11 : decode cX13_isDecision 11 = .ok (.iconst 1, 1) := by decide +kernel
