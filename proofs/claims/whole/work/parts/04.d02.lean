theorem dX6_setCosts_0 : decode cX6_setCosts 0 = .ok (.aload_n 0, 1) := by decide +kernel
theorem dX6_setCosts_1 : decode cX6_setCosts 1 = .ok (.iload_n 1, 1) := by decide +kernel
theorem dX6_setCosts_2 : decode cX6_setCosts 2 = .ok (.putfield 28, 3) := by decide +kernel
theorem dX6_setCosts_5 : decode cX6_setCosts 5 = .ok (.aload_n 0, 1) := by decide +kernel
theorem dX6_setCosts_6 : decode cX6_setCosts 6 = .ok (.iload_n 2, 1) := by decide +kernel
theorem dX6_setCosts_7 : decode cX6_setCosts 7 = .ok (.putfield 31, 3) := by decide +kernel
theorem dX6_setCosts_10 : decode cX6_setCosts 10 = .ok (.aload_n 0, 1) := by decide +kernel
theorem dX6_setCosts_11 : decode cX6_setCosts 11 = .ok (.iload_n 3, 1) := by decide +kernel
theorem dX6_setCosts_12 : decode cX6_setCosts 12 = .ok (.putfield 34, 3) := by decide +kernel
theorem dX6_setCosts_15 : decode cX6_setCosts 15 = .ok (.return_, 1) := by decide +kernel
theorem dX6_take_0 : decode cX6_take 0 = .ok (.aload_n 0, 1) := by decide +kernel
theorem dX6_take_1 : decode cX6_take 1 = .ok (.getfield 9, 3) := by decide +kernel
theorem dX6_take_4 : decode cX6_take 4 = .ok (.iconst 0, 1) := by decide +kernel
theorem dX6_take_5 : decode cX6_take 5 = .ok (.invokestatic 37, 3) := by decide +kernel
theorem dX6_take_8 : decode cX6_take 8 = .ok (.aload_n 0, 1) := by decide +kernel
theorem dX6_take_9 : decode cX6_take 9 = .ok (.getfield 15, 3) := by decide +kernel
theorem dX6_take_12 : decode cX6_take 12 = .ok (.iconst 0, 1) := by decide +kernel
theorem dX6_take_13 : decode cX6_take 13 = .ok (.invokestatic 37, 3) := by decide +kernel
theorem dX6_take_16 : decode cX6_take 16 = .ok (.aload_n 0, 1) := by decide +kernel
theorem dX6_take_17 : decode cX6_take 17 = .ok (.getfield 18, 3) := by decide +kernel
theorem dX6_take_20 : decode cX6_take 20 = .ok (.iconst 0, 1) := by decide +kernel
theorem dX6_take_21 : decode cX6_take 21 = .ok (.invokestatic 37, 3) := by decide +kernel
theorem dX6_take_24 : decode cX6_take 24 = .ok (.iconst 0, 1) := by decide +kernel
theorem dX6_take_25 : decode cX6_take 25 = .ok (.istore_n 2, 1) := by decide +kernel
theorem dX6_take_26 : decode cX6_take 26 = .ok (.iload_n 2, 1) := by decide +kernel
theorem dX6_take_27 : decode cX6_take 27 = .ok (.aload_n 1, 1) := by decide +kernel
theorem dX6_take_28 : decode cX6_take 28 = .ok (.getfield 43, 3) := by decide +kernel
theorem dX6_take_31 : decode cX6_take 31 = .ok (.if_icmp .ge 52, 3) := by decide +kernel
theorem dX6_take_34 : decode cX6_take 34 = .ok (.aload_n 1, 1) := by decide +kernel
theorem dX6_take_35 : decode cX6_take 35 = .ok (.getfield 48, 3) := by decide +kernel
theorem dX6_take_38 : decode cX6_take 38 = .ok (.iload_n 2, 1) := by decide +kernel
theorem dX6_take_39 : decode cX6_take 39 = .ok (.iaload, 1) := by decide +kernel
theorem dX6_take_40 : decode cX6_take 40 = .ok (.istore_n 3, 1) := by decide +kernel
theorem dX6_take_41 : decode cX6_take 41 = .ok (.aload_n 0, 1) := by decide +kernel
theorem dX6_take_42 : decode cX6_take 42 = .ok (.getfield 9, 3) := by decide +kernel
theorem dX6_take_45 : decode cX6_take 45 = .ok (.iload_n 3, 1) := by decide +kernel
theorem dX6_take_46 : decode cX6_take 46 = .ok (.aload_n 1, 1) := by decide +kernel
theorem dX6_take_47 : decode cX6_take 47 = .ok (.getfield 51, 3) := by decide +kernel
theorem dX6_take_50 : decode cX6_take 50 = .ok (.iload_n 2, 1) := by decide +kernel
theorem dX6_take_51 : decode cX6_take 51 = .ok (.iaload, 1) := by decide +kernel
theorem dX6_take_52 : decode cX6_take 52 = .ok (.iastore, 1) := by decide +kernel
theorem dX6_take_53 : decode cX6_take 53 = .ok (.aload_n 0, 1) := by decide +kernel
theorem dX6_take_54 : decode cX6_take 54 = .ok (.getfield 15, 3) := by decide +kernel
theorem dX6_take_57 : decode cX6_take 57 = .ok (.iload_n 3, 1) := by decide +kernel
theorem dX6_take_58 : decode cX6_take 58 = .ok (.aload_n 1, 1) := by decide +kernel
theorem dX6_take_59 : decode cX6_take 59 = .ok (.getfield 52, 3) := by decide +kernel
theorem dX6_take_62 : decode cX6_take 62 = .ok (.iload_n 2, 1) := by decide +kernel
theorem dX6_take_63 : decode cX6_take 63 = .ok (.iaload, 1) := by decide +kernel
theorem dX6_take_64 : decode cX6_take 64 = .ok (.iastore, 1) := by decide +kernel
theorem dX6_take_65 : decode cX6_take 65 = .ok (.aload_n 0, 1) := by decide +kernel
theorem dX6_take_66 : decode cX6_take 66 = .ok (.getfield 18, 3) := by decide +kernel
theorem dX6_take_69 : decode cX6_take 69 = .ok (.iload_n 3, 1) := by decide +kernel
theorem dX6_take_70 : decode cX6_take 70 = .ok (.aload_n 1, 1) := by decide +kernel
theorem dX6_take_71 : decode cX6_take 71 = .ok (.getfield 53, 3) := by decide +kernel
theorem dX6_take_74 : decode cX6_take 74 = .ok (.iload_n 2, 1) := by decide +kernel
theorem dX6_take_75 : decode cX6_take 75 = .ok (.iaload, 1) := by decide +kernel
theorem dX6_take_76 : decode cX6_take 76 = .ok (.iastore, 1) := by decide +kernel
theorem dX6_take_77 : decode cX6_take 77 = .ok (.iinc 2 1, 3) := by decide +kernel
theorem dX6_take_80 : decode cX6_take 80 = .ok (.goto (-54), 3) := by decide +kernel
theorem dX6_take_83 : decode cX6_take 83 = .ok (.aload_n 0, 1) := by decide +kernel
theorem dX6_take_84 : decode cX6_take 84 = .ok (.aload_n 1, 1) := by decide +kernel
theorem dX6_take_85 : decode cX6_take 85 = .ok (.getfield 54, 3) := by decide +kernel
theorem dX6_take_88 : decode cX6_take 88 = .ok (.putfield 21, 3) := by decide +kernel
theorem dX6_take_91 : decode cX6_take 91 = .ok (.aload_n 0, 1) := by decide +kernel
theorem dX6_take_92 : decode cX6_take 92 = .ok (.aload_n 1, 1) := by decide +kernel
theorem dX6_take_93 : decode cX6_take 93 = .ok (.getfield 55, 3) := by decide +kernel
theorem dX6_take_96 : decode cX6_take 96 = .ok (.putfield 25, 3) := by decide +kernel
theorem dX6_take_99 : decode cX6_take 99 = .ok (.aload_n 0, 1) := by decide +kernel
theorem dX6_take_100 : decode cX6_take 100 = .ok (.aload_n 1, 1) := by decide +kernel
theorem dX6_take_101 : decode cX6_take 101 = .ok (.getfield 56, 3) := by decide +kernel
theorem dX6_take_104 : decode cX6_take 104 = .ok (.iconst 0, 1) := by decide +kernel
theorem dX6_take_105 : decode cX6_take 105 = .ok (.iaload, 1) := by decide +kernel
theorem dX6_take_106 : decode cX6_take 106 = .ok (.aload_n 1, 1) := by decide +kernel
theorem dX6_take_107 : decode cX6_take 107 = .ok (.getfield 56, 3) := by decide +kernel
theorem dX6_take_110 : decode cX6_take 110 = .ok (.iconst 1, 1) := by decide +kernel
theorem dX6_take_111 : decode cX6_take 111 = .ok (.iaload, 1) := by decide +kernel
theorem dX6_take_112 : decode cX6_take 112 = .ok (.aload_n 1, 1) := by decide +kernel
theorem dX6_take_113 : decode cX6_take 113 = .ok (.getfield 56, 3) := by decide +kernel
theorem dX6_take_116 : decode cX6_take 116 = .ok (.iconst 2, 1) := by decide +kernel
theorem dX6_take_117 : decode cX6_take 117 = .ok (.iaload, 1) := by decide +kernel
theorem dX6_take_118 : decode cX6_take 118 = .ok (.invokevirtual 59, 3) := by decide +kernel
theorem dX6_take_121 : decode cX6_take 121 = .ok (.return_, 1) := by decide +kernel
theorem dX6_setBound_0 : decode cX6_setBound 0 = .ok (.iload_n 1, 1) := by decide +kernel
theorem dX6_setBound_1 : decode cX6_setBound 1 = .ok (.ifCond .ne 11, 3) := by decide +kernel
theorem dX6_setBound_4 : decode cX6_setBound 4 = .ok (.aload_n 0, 1) := by decide +kernel
theorem dX6_setBound_5 : decode cX6_setBound 5 = .ok (.iload_n 2, 1) := by decide +kernel
theorem dX6_setBound_6 : decode cX6_setBound 6 = .ok (.putfield 21, 3) := by decide +kernel
theorem dX6_setBound_9 : decode cX6_setBound 9 = .ok (.goto 8, 3) := by decide +kernel
theorem dX6_setBound_12 : decode cX6_setBound 12 = .ok (.aload_n 0, 1) := by decide +kernel
theorem dX6_setBound_13 : decode cX6_setBound 13 = .ok (.iload_n 2, 1) := by decide +kernel
theorem dX6_setBound_14 : decode cX6_setBound 14 = .ok (.putfield 25, 3) := by decide +kernel
theorem dX6_setBound_17 : decode cX6_setBound 17 = .ok (.return_, 1) := by decide +kernel
theorem dX6_opens_0 : decode cX6_opens 0 = .ok (.iconst 0, 1) := by decide +kernel
theorem dX6_opens_1 : decode cX6_opens 1 = .ok (.istore_n 1, 1) := by decide +kernel
theorem dX6_opens_2 : decode cX6_opens 2 = .ok (.iconst 0, 1) := by decide +kernel
theorem dX6_opens_3 : decode cX6_opens 3 = .ok (.istore_n 2, 1) := by decide +kernel
theorem dX6_opens_4 : decode cX6_opens 4 = .ok (.iload_n 2, 1) := by decide +kernel
theorem dX6_opens_5 : decode cX6_opens 5 = .ok (.sipush 1000, 3) := by decide +kernel
theorem dX6_opens_8 : decode cX6_opens 8 = .ok (.if_icmp .ge 18, 3) := by decide +kernel
theorem dX6_opens_11 : decode cX6_opens 11 = .ok (.iload_n 1, 1) := by decide +kernel
theorem dX6_opens_12 : decode cX6_opens 12 = .ok (.aload_n 0, 1) := by decide +kernel
theorem dX6_opens_13 : decode cX6_opens 13 = .ok (.getfield 18, 3) := by decide +kernel
theorem dX6_opens_16 : decode cX6_opens 16 = .ok (.iload_n 2, 1) := by decide +kernel
theorem dX6_opens_17 : decode cX6_opens 17 = .ok (.iaload, 1) := by decide +kernel
theorem dX6_opens_18 : decode cX6_opens 18 = .ok (.iadd, 1) := by decide +kernel
theorem dX6_opens_19 : decode cX6_opens 19 = .ok (.istore_n 1, 1) := by decide +kernel
theorem dX6_opens_20 : decode cX6_opens 20 = .ok (.iinc 2 1, 3) := by decide +kernel
theorem dX6_opens_23 : decode cX6_opens 23 = .ok (.goto (-19), 3) := by decide +kernel
theorem dX6_opens_26 : decode cX6_opens 26 = .ok (.iload_n 1, 1) := by decide +kernel
theorem dX6_opens_27 : decode cX6_opens 27 = .ok (.ireturn, 1) := by decide +kernel
theorem dX6_fits_0 : decode cX6_fits 0 = .ok (.iconst 0, 1) := by decide +kernel
theorem dX6_fits_1 : decode cX6_fits 1 = .ok (.istore_n 1, 1) := by decide +kernel
theorem dX6_fits_2 : decode cX6_fits 2 = .ok (.iconst 0, 1) := by decide +kernel
theorem dX6_fits_3 : decode cX6_fits 3 = .ok (.istore_n 2, 1) := by decide +kernel
theorem dX6_fits_4 : decode cX6_fits 4 = .ok (.iload_n 2, 1) := by decide +kernel
theorem dX6_fits_5 : decode cX6_fits 5 = .ok (.sipush 1000, 3) := by decide +kernel
theorem dX6_fits_8 : decode cX6_fits 8 = .ok (.if_icmp .ge 70, 3) := by decide +kernel
theorem dX6_fits_11 : decode cX6_fits 11 = .ok (.aload_n 0, 1) := by decide +kernel
theorem dX6_fits_12 : decode cX6_fits 12 = .ok (.getfield 9, 3) := by decide +kernel
theorem dX6_fits_15 : decode cX6_fits 15 = .ok (.iload_n 2, 1) := by decide +kernel
theorem dX6_fits_16 : decode cX6_fits 16 = .ok (.iaload, 1) := by decide +kernel
theorem dX6_fits_17 : decode cX6_fits 17 = .ok (.ifCond .lt 34, 3) := by decide +kernel
theorem dX6_fits_20 : decode cX6_fits 20 = .ok (.aload_n 0, 1) := by decide +kernel
theorem dX6_fits_21 : decode cX6_fits 21 = .ok (.getfield 9, 3) := by decide +kernel
theorem dX6_fits_24 : decode cX6_fits 24 = .ok (.iload_n 2, 1) := by decide +kernel
theorem dX6_fits_25 : decode cX6_fits 25 = .ok (.iaload, 1) := by decide +kernel
theorem dX6_fits_26 : decode cX6_fits 26 = .ok (.bipush 99, 2) := by decide +kernel
theorem dX6_fits_28 : decode cX6_fits 28 = .ok (.if_icmp .gt 23, 3) := by decide +kernel
theorem dX6_fits_31 : decode cX6_fits 31 = .ok (.aload_n 0, 1) := by decide +kernel
theorem dX6_fits_32 : decode cX6_fits 32 = .ok (.getfield 15, 3) := by decide +kernel
theorem dX6_fits_35 : decode cX6_fits 35 = .ok (.iload_n 2, 1) := by decide +kernel
theorem dX6_fits_36 : decode cX6_fits 36 = .ok (.iaload, 1) := by decide +kernel
theorem dX6_fits_37 : decode cX6_fits 37 = .ok (.ifCond .lt 14, 3) := by decide +kernel
theorem dX6_fits_40 : decode cX6_fits 40 = .ok (.aload_n 0, 1) := by decide +kernel
theorem dX6_fits_41 : decode cX6_fits 41 = .ok (.getfield 15, 3) := by decide +kernel
theorem dX6_fits_44 : decode cX6_fits 44 = .ok (.iload_n 2, 1) := by decide +kernel
theorem dX6_fits_45 : decode cX6_fits 45 = .ok (.iaload, 1) := by decide +kernel
theorem dX6_fits_46 : decode cX6_fits 46 = .ok (.bipush 99, 2) := by decide +kernel
theorem dX6_fits_48 : decode cX6_fits 48 = .ok (.if_icmp .le 5, 3) := by decide +kernel
theorem dX6_fits_51 : decode cX6_fits 51 = .ok (.iconst 0, 1) := by decide +kernel
theorem dX6_fits_52 : decode cX6_fits 52 = .ok (.ireturn, 1) := by decide +kernel
theorem dX6_fits_53 : decode cX6_fits 53 = .ok (.aload_n 0, 1) := by decide +kernel
theorem dX6_fits_54 : decode cX6_fits 54 = .ok (.getfield 9, 3) := by decide +kernel
theorem dX6_fits_57 : decode cX6_fits 57 = .ok (.iload_n 2, 1) := by decide +kernel
theorem dX6_fits_58 : decode cX6_fits 58 = .ok (.iaload, 1) := by decide +kernel
theorem dX6_fits_59 : decode cX6_fits 59 = .ok (.aload_n 0, 1) := by decide +kernel
theorem dX6_fits_60 : decode cX6_fits 60 = .ok (.getfield 15, 3) := by decide +kernel
theorem dX6_fits_63 : decode cX6_fits 63 = .ok (.iload_n 2, 1) := by decide +kernel
theorem dX6_fits_64 : decode cX6_fits 64 = .ok (.iaload, 1) := by decide +kernel
theorem dX6_fits_65 : decode cX6_fits 65 = .ok (.iadd, 1) := by decide +kernel
theorem dX6_fits_66 : decode cX6_fits 66 = .ok (.ifCond .le 6, 3) := by decide +kernel
theorem dX6_fits_69 : decode cX6_fits 69 = .ok (.iinc 1 1, 3) := by decide +kernel
theorem dX6_fits_72 : decode cX6_fits 72 = .ok (.iinc 2 1, 3) := by decide +kernel
theorem dX6_fits_75 : decode cX6_fits 75 = .ok (.goto (-71), 3) := by decide +kernel
theorem dX6_fits_78 : decode cX6_fits 78 = .ok (.iload_n 1, 1) := by decide +kernel
theorem dX6_fits_79 : decode cX6_fits 79 = .ok (.bipush 60, 2) := by decide +kernel
theorem dX6_fits_81 : decode cX6_fits 81 = .ok (.if_icmp .gt 7, 3) := by decide +kernel
theorem dX6_fits_84 : decode cX6_fits 84 = .ok (.iconst 1, 1) := by decide +kernel
theorem dX6_fits_85 : decode cX6_fits 85 = .ok (.goto 4, 3) := by decide +kernel
theorem dX6_fits_88 : decode cX6_fits 88 = .ok (.iconst 0, 1) := by decide +kernel
theorem dX6_fits_89 : decode cX6_fits 89 = .ok (.ireturn, 1) := by decide +kernel
theorem dX7_begin_0 : decode cX7_begin 0 = .ok (.aload_n 0, 1) := by decide +kernel
theorem dX7_begin_1 : decode cX7_begin 1 = .ok (.iconst 0, 1) := by decide +kernel
theorem dX7_begin_2 : decode cX7_begin 2 = .ok (.putfield 55, 3) := by decide +kernel
theorem dX7_begin_5 : decode cX7_begin 5 = .ok (.aload_n 0, 1) := by decide +kernel
theorem dX7_begin_6 : decode cX7_begin 6 = .ok (.iconst 0, 1) := by decide +kernel
theorem dX7_begin_7 : decode cX7_begin 7 = .ok (.putfield 52, 3) := by decide +kernel
theorem dX7_begin_10 : decode cX7_begin 10 = .ok (.aload_n 0, 1) := by decide +kernel
theorem dX7_begin_11 : decode cX7_begin 11 = .ok (.iconst 1, 1) := by decide +kernel
theorem dX7_begin_12 : decode cX7_begin 12 = .ok (.putfield 58, 3) := by decide +kernel
theorem dX7_begin_15 : decode cX7_begin 15 = .ok (.aload_n 0, 1) := by decide +kernel
theorem dX7_begin_16 : decode cX7_begin 16 = .ok (.bipush 60, 2) := by decide +kernel
theorem dX7_begin_18 : decode cX7_begin 18 = .ok (.putfield 61, 3) := by decide +kernel
theorem dX7_begin_21 : decode cX7_begin 21 = .ok (.aload_n 0, 1) := by decide +kernel
theorem dX7_begin_22 : decode cX7_begin 22 = .ok (.getfield 24, 3) := by decide +kernel
theorem dX7_begin_25 : decode cX7_begin 25 = .ok (.iconst 0, 1) := by decide +kernel
theorem dX7_begin_26 : decode cX7_begin 26 = .ok (.iconst 1, 1) := by decide +kernel
theorem dX7_begin_27 : decode cX7_begin 27 = .ok (.iastore, 1) := by decide +kernel
theorem dX7_begin_28 : decode cX7_begin 28 = .ok (.aload_n 0, 1) := by decide +kernel
theorem dX7_begin_29 : decode cX7_begin 29 = .ok (.getfield 24, 3) := by decide +kernel
theorem dX7_begin_32 : decode cX7_begin 32 = .ok (.iconst 1, 1) := by decide +kernel
theorem dX7_begin_33 : decode cX7_begin 33 = .ok (.iconst 5, 1) := by decide +kernel
theorem dX7_begin_34 : decode cX7_begin 34 = .ok (.iastore, 1) := by decide +kernel
theorem dX7_begin_35 : decode cX7_begin 35 = .ok (.aload_n 0, 1) := by decide +kernel
theorem dX7_begin_36 : decode cX7_begin 36 = .ok (.getfield 24, 3) := by decide +kernel
theorem dX7_begin_39 : decode cX7_begin 39 = .ok (.iconst 2, 1) := by decide +kernel
theorem dX7_begin_40 : decode cX7_begin 40 = .ok (.iconst 1, 1) := by decide +kernel
theorem dX7_begin_41 : decode cX7_begin 41 = .ok (.iastore, 1) := by decide +kernel
theorem dX7_begin_42 : decode cX7_begin 42 = .ok (.aload_n 0, 1) := by decide +kernel
theorem dX7_begin_43 : decode cX7_begin 43 = .ok (.iconst 0, 1) := by decide +kernel
theorem dX7_begin_44 : decode cX7_begin 44 = .ok (.putfield 64, 3) := by decide +kernel
theorem dX7_begin_47 : decode cX7_begin 47 = .ok (.aload_n 0, 1) := by decide +kernel
theorem dX7_begin_48 : decode cX7_begin 48 = .ok (.iconst 0, 1) := by decide +kernel
theorem dX7_begin_49 : decode cX7_begin 49 = .ok (.putfield 38, 3) := by decide +kernel
theorem dX7_begin_52 : decode cX7_begin 52 = .ok (.aload_n 0, 1) := by decide +kernel
theorem dX7_begin_53 : decode cX7_begin 53 = .ok (.iconst (-1), 1) := by decide +kernel
theorem dX7_begin_54 : decode cX7_begin 54 = .ok (.putfield 27, 3) := by decide +kernel
theorem dX7_begin_57 : decode cX7_begin 57 = .ok (.aload_n 0, 1) := by decide +kernel
theorem dX7_begin_58 : decode cX7_begin 58 = .ok (.iconst 0, 1) := by decide +kernel
theorem dX7_begin_59 : decode cX7_begin 59 = .ok (.putfield 67, 3) := by decide +kernel
theorem dX7_begin_62 : decode cX7_begin 62 = .ok (.return_, 1) := by decide +kernel
theorem dX7_isBlank_0 : decode cX7_isBlank 0 = .ok (.iload_n 0, 1) := by decide +kernel
theorem dX7_isBlank_1 : decode cX7_isBlank 1 = .ok (.bipush 32, 2) := by decide +kernel
theorem dX7_isBlank_3 : decode cX7_isBlank 3 = .ok (.if_icmp .eq 9, 3) := by decide +kernel
theorem dX7_isBlank_6 : decode cX7_isBlank 6 = .ok (.iload_n 0, 1) := by decide +kernel
theorem dX7_isBlank_7 : decode cX7_isBlank 7 = .ok (.bipush 10, 2) := by decide +kernel
theorem dX7_isBlank_9 : decode cX7_isBlank 9 = .ok (.if_icmp .ne 7, 3) := by decide +kernel
theorem dX7_isBlank_12 : decode cX7_isBlank 12 = .ok (.iconst 1, 1) := by decide +kernel
theorem dX7_isBlank_13 : decode cX7_isBlank 13 = .ok (.goto 4, 3) := by decide +kernel
theorem dX7_isBlank_16 : decode cX7_isBlank 16 = .ok (.iconst 0, 1) := by decide +kernel
theorem dX7_isBlank_17 : decode cX7_isBlank 17 = .ok (.ireturn, 1) := by decide +kernel
theorem dX7_kindOf_0 : decode cX7_kindOf 0 = .ok (.iload_n 0, 1) := by decide +kernel
theorem dX7_kindOf_1 : decode cX7_kindOf 1 = .ok (.bipush 97, 2) := by decide +kernel
theorem dX7_kindOf_3 : decode cX7_kindOf 3 = .ok (.if_icmp .lt 11, 3) := by decide +kernel
theorem dX7_kindOf_6 : decode cX7_kindOf 6 = .ok (.iload_n 0, 1) := by decide +kernel
theorem dX7_kindOf_7 : decode cX7_kindOf 7 = .ok (.bipush 122, 2) := by decide +kernel
theorem dX7_kindOf_9 : decode cX7_kindOf 9 = .ok (.if_icmp .gt 5, 3) := by decide +kernel
theorem dX7_kindOf_12 : decode cX7_kindOf 12 = .ok (.iconst 1, 1) := by decide +kernel
theorem dX7_kindOf_13 : decode cX7_kindOf 13 = .ok (.ireturn, 1) := by decide +kernel
theorem dX7_kindOf_14 : decode cX7_kindOf 14 = .ok (.iload_n 0, 1) := by decide +kernel
theorem dX7_kindOf_15 : decode cX7_kindOf 15 = .ok (.bipush 48, 2) := by decide +kernel
theorem dX7_kindOf_17 : decode cX7_kindOf 17 = .ok (.if_icmp .lt 11, 3) := by decide +kernel
theorem dX7_kindOf_20 : decode cX7_kindOf 20 = .ok (.iload_n 0, 1) := by decide +kernel
theorem dX7_kindOf_21 : decode cX7_kindOf 21 = .ok (.bipush 57, 2) := by decide +kernel
theorem dX7_kindOf_23 : decode cX7_kindOf 23 = .ok (.if_icmp .gt 5, 3) := by decide +kernel
theorem dX7_kindOf_26 : decode cX7_kindOf 26 = .ok (.iconst 2, 1) := by decide +kernel
theorem dX7_kindOf_27 : decode cX7_kindOf 27 = .ok (.ireturn, 1) := by decide +kernel
theorem dX7_kindOf_28 : decode cX7_kindOf 28 = .ok (.iload_n 0, 1) := by decide +kernel
theorem dX7_kindOf_29 : decode cX7_kindOf 29 = .ok (.bipush 59, 2) := by decide +kernel
theorem dX7_kindOf_31 : decode cX7_kindOf 31 = .ok (.if_icmp .ne 7, 3) := by decide +kernel
theorem dX7_kindOf_34 : decode cX7_kindOf 34 = .ok (.iconst 3, 1) := by decide +kernel
theorem dX7_kindOf_35 : decode cX7_kindOf 35 = .ok (.goto 4, 3) := by decide +kernel
theorem dX7_kindOf_38 : decode cX7_kindOf 38 = .ok (.iconst 4, 1) := by decide +kernel
theorem dX7_kindOf_39 : decode cX7_kindOf 39 = .ok (.ireturn, 1) := by decide +kernel
theorem dX7_step_0 : decode cX7_step 0 = .ok (.aload_n 0, 1) := by decide +kernel
theorem dX7_step_1 : decode cX7_step 1 = .ok (.getfield 38, 3) := by decide +kernel
theorem dX7_step_4 : decode cX7_step 4 = .ok (.ifCond .eq 4, 3) := by decide +kernel
theorem dX7_step_7 : decode cX7_step 7 = .ok (.return_, 1) := by decide +kernel
theorem dX7_step_8 : decode cX7_step 8 = .ok (.aload_n 0, 1) := by decide +kernel
theorem dX7_step_9 : decode cX7_step 9 = .ok (.getfield 67, 3) := by decide +kernel
theorem dX7_step_12 : decode cX7_step 12 = .ok (.aload_n 1, 1) := by decide +kernel
theorem dX7_step_13 : decode cX7_step 13 = .ok (.getfield 122, 3) := by decide +kernel
theorem dX7_step_16 : decode cX7_step 16 = .ok (.if_icmp .ge 31, 3) := by decide +kernel
theorem dX7_step_19 : decode cX7_step 19 = .ok (.aload_n 1, 1) := by decide +kernel
theorem dX7_step_20 : decode cX7_step 20 = .ok (.getfield 113, 3) := by decide +kernel
theorem dX7_step_23 : decode cX7_step 23 = .ok (.aload_n 0, 1) := by decide +kernel
theorem dX7_step_24 : decode cX7_step 24 = .ok (.getfield 67, 3) := by decide +kernel
theorem dX7_step_27 : decode cX7_step 27 = .ok (.iaload, 1) := by decide +kernel
theorem dX7_step_28 : decode cX7_step 28 = .ok (.invokestatic 125, 3) := by decide +kernel
theorem dX7_step_31 : decode cX7_step 31 = .ok (.ifCond .eq 16, 3) := by decide +kernel
theorem dX7_step_34 : decode cX7_step 34 = .ok (.aload_n 0, 1) := by decide +kernel
theorem dX7_step_35 : decode cX7_step 35 = .ok (.dup, 1) := by decide +kernel
theorem dX7_step_36 : decode cX7_step 36 = .ok (.getfield 67, 3) := by decide +kernel
theorem dX7_step_39 : decode cX7_step 39 = .ok (.iconst 1, 1) := by decide +kernel
theorem dX7_step_40 : decode cX7_step 40 = .ok (.iadd, 1) := by decide +kernel
theorem dX7_step_41 : decode cX7_step 41 = .ok (.putfield 67, 3) := by decide +kernel
theorem dX7_step_44 : decode cX7_step 44 = .ok (.goto (-36), 3) := by decide +kernel
theorem dX7_step_47 : decode cX7_step 47 = .ok (.aload_n 0, 1) := by decide +kernel
theorem dX7_step_48 : decode cX7_step 48 = .ok (.aload_n 0, 1) := by decide +kernel
theorem dX7_step_49 : decode cX7_step 49 = .ok (.getfield 67, 3) := by decide +kernel
theorem dX7_step_52 : decode cX7_step 52 = .ok (.putfield 70, 3) := by decide +kernel
theorem dX7_step_55 : decode cX7_step 55 = .ok (.aload_n 0, 1) := by decide +kernel
theorem dX7_step_56 : decode cX7_step 56 = .ok (.aload_n 0, 1) := by decide +kernel
theorem dX7_step_57 : decode cX7_step 57 = .ok (.getfield 67, 3) := by decide +kernel
theorem dX7_step_60 : decode cX7_step 60 = .ok (.aload_n 1, 1) := by decide +kernel
theorem dX7_step_61 : decode cX7_step 61 = .ok (.getfield 122, 3) := by decide +kernel
theorem dX7_step_64 : decode cX7_step 64 = .ok (.if_icmp .ge 18, 3) := by decide +kernel
theorem dX7_step_67 : decode cX7_step 67 = .ok (.aload_n 1, 1) := by decide +kernel
theorem dX7_step_68 : decode cX7_step 68 = .ok (.getfield 113, 3) := by decide +kernel
theorem dX7_step_71 : decode cX7_step 71 = .ok (.aload_n 0, 1) := by decide +kernel
theorem dX7_step_72 : decode cX7_step 72 = .ok (.getfield 67, 3) := by decide +kernel
theorem dX7_step_75 : decode cX7_step 75 = .ok (.iaload, 1) := by decide +kernel
theorem dX7_step_76 : decode cX7_step 76 = .ok (.invokestatic 128, 3) := by decide +kernel
theorem dX7_step_79 : decode cX7_step 79 = .ok (.goto 4, 3) := by decide +kernel
theorem dX7_step_82 : decode cX7_step 82 = .ok (.iconst 0, 1) := by decide +kernel
theorem dX7_step_83 : decode cX7_step 83 = .ok (.putfield 41, 3) := by decide +kernel
theorem dX7_step_86 : decode cX7_step 86 = .ok (.aload_n 0, 1) := by decide +kernel
theorem dX7_step_87 : decode cX7_step 87 = .ok (.iconst 0, 1) := by decide +kernel
theorem dX7_step_88 : decode cX7_step 88 = .ok (.putfield 104, 3) := by decide +kernel
theorem dX7_step_91 : decode cX7_step 91 = .ok (.aload_n 0, 1) := by decide +kernel
theorem dX7_step_92 : decode cX7_step 92 = .ok (.getfield 41, 3) := by decide +kernel
theorem dX7_step_95 : decode cX7_step 95 = .ok (.iconst 3, 1) := by decide +kernel
theorem dX7_step_96 : decode cX7_step 96 = .ok (.if_icmp .eq 11, 3) := by decide +kernel
theorem dX7_step_99 : decode cX7_step 99 = .ok (.aload_n 0, 1) := by decide +kernel
theorem dX7_step_100 : decode cX7_step 100 = .ok (.getfield 41, 3) := by decide +kernel
theorem dX7_step_103 : decode cX7_step 103 = .ok (.iconst 4, 1) := by decide +kernel
theorem dX7_step_104 : decode cX7_step 104 = .ok (.if_icmp .ne 14, 3) := by decide +kernel
theorem dX7_step_107 : decode cX7_step 107 = .ok (.aload_n 0, 1) := by decide +kernel
theorem dX7_step_108 : decode cX7_step 108 = .ok (.dup, 1) := by decide +kernel
theorem dX7_step_109 : decode cX7_step 109 = .ok (.getfield 67, 3) := by decide +kernel
theorem dX7_step_112 : decode cX7_step 112 = .ok (.iconst 1, 1) := by decide +kernel
theorem dX7_step_113 : decode cX7_step 113 = .ok (.iadd, 1) := by decide +kernel
theorem dX7_step_114 : decode cX7_step 114 = .ok (.putfield 67, 3) := by decide +kernel
theorem dX7_step_117 : decode cX7_step 117 = .ok (.return_, 1) := by decide +kernel
theorem dX7_step_118 : decode cX7_step 118 = .ok (.aload_n 0, 1) := by decide +kernel
theorem dX7_step_119 : decode cX7_step 119 = .ok (.getfield 67, 3) := by decide +kernel
theorem dX7_step_122 : decode cX7_step 122 = .ok (.aload_n 1, 1) := by decide +kernel
theorem dX7_step_123 : decode cX7_step 123 = .ok (.getfield 122, 3) := by decide +kernel
theorem dX7_step_126 : decode cX7_step 126 = .ok (.if_icmp .ge 72, 3) := by decide +kernel
theorem dX7_step_129 : decode cX7_step 129 = .ok (.aload_n 1, 1) := by decide +kernel
theorem dX7_step_130 : decode cX7_step 130 = .ok (.getfield 113, 3) := by decide +kernel
theorem dX7_step_133 : decode cX7_step 133 = .ok (.aload_n 0, 1) := by decide +kernel
theorem dX7_step_134 : decode cX7_step 134 = .ok (.getfield 67, 3) := by decide +kernel
theorem dX7_step_137 : decode cX7_step 137 = .ok (.iaload, 1) := by decide +kernel
theorem dX7_step_138 : decode cX7_step 138 = .ok (.invokestatic 128, 3) := by decide +kernel
theorem dX7_step_141 : decode cX7_step 141 = .ok (.aload_n 0, 1) := by decide +kernel
theorem dX7_step_142 : decode cX7_step 142 = .ok (.getfield 41, 3) := by decide +kernel
theorem dX7_step_145 : decode cX7_step 145 = .ok (.if_icmp .ne 53, 3) := by decide +kernel
theorem dX7_step_148 : decode cX7_step 148 = .ok (.aload_n 0, 1) := by decide +kernel
theorem dX7_step_149 : decode cX7_step 149 = .ok (.getfield 41, 3) := by decide +kernel
theorem dX7_step_152 : decode cX7_step 152 = .ok (.iconst 2, 1) := by decide +kernel
theorem dX7_step_153 : decode cX7_step 153 = .ok (.if_icmp .ne 32, 3) := by decide +kernel
theorem dX7_step_156 : decode cX7_step 156 = .ok (.aload_n 0, 1) := by decide +kernel
theorem dX7_step_157 : decode cX7_step 157 = .ok (.aload_n 0, 1) := by decide +kernel
theorem dX7_step_158 : decode cX7_step 158 = .ok (.getfield 104, 3) := by decide +kernel
theorem dX7_step_161 : decode cX7_step 161 = .ok (.bipush 10, 2) := by decide +kernel
theorem dX7_step_163 : decode cX7_step 163 = .ok (.imul, 1) := by decide +kernel
theorem dX7_step_164 : decode cX7_step 164 = .ok (.aload_n 1, 1) := by decide +kernel
theorem dX7_step_165 : decode cX7_step 165 = .ok (.getfield 113, 3) := by decide +kernel
theorem dX7_step_168 : decode cX7_step 168 = .ok (.aload_n 0, 1) := by decide +kernel
theorem dX7_step_169 : decode cX7_step 169 = .ok (.getfield 67, 3) := by decide +kernel
theorem dX7_step_172 : decode cX7_step 172 = .ok (.iaload, 1) := by decide +kernel
theorem dX7_step_173 : decode cX7_step 173 = .ok (.iadd, 1) := by decide +kernel
theorem dX7_step_174 : decode cX7_step 174 = .ok (.bipush 48, 2) := by decide +kernel
theorem dX7_step_176 : decode cX7_step 176 = .ok (.isub, 1) := by decide +kernel
theorem dX7_step_177 : decode cX7_step 177 = .ok (.ldc 132, 2) := by decide +kernel
theorem dX7_step_179 : decode cX7_step 179 = .ok (.invokestatic 133, 3) := by decide +kernel
theorem dX7_step_182 : decode cX7_step 182 = .ok (.putfield 104, 3) := by decide +kernel
theorem dX7_step_185 : decode cX7_step 185 = .ok (.aload_n 0, 1) := by decide +kernel
theorem dX7_step_186 : decode cX7_step 186 = .ok (.dup, 1) := by decide +kernel
theorem dX7_step_187 : decode cX7_step 187 = .ok (.getfield 67, 3) := by decide +kernel
theorem dX7_step_190 : decode cX7_step 190 = .ok (.iconst 1, 1) := by decide +kernel
theorem dX7_step_191 : decode cX7_step 191 = .ok (.iadd, 1) := by decide +kernel
theorem dX7_step_192 : decode cX7_step 192 = .ok (.putfield 67, 3) := by decide +kernel
theorem dX7_step_195 : decode cX7_step 195 = .ok (.goto (-77), 3) := by decide +kernel
theorem dX7_step_198 : decode cX7_step 198 = .ok (.return_, 1) := by decide +kernel
theorem dX7_fail_0 : decode cX7_fail 0 = .ok (.aload_n 0, 1) := by decide +kernel
theorem dX7_fail_1 : decode cX7_fail 1 = .ok (.getfield 38, 3) := by decide +kernel
theorem dX7_fail_4 : decode cX7_fail 4 = .ok (.ifCond .ne 16, 3) := by decide +kernel
theorem dX7_fail_7 : decode cX7_fail 7 = .ok (.aload_n 0, 1) := by decide +kernel
theorem dX7_fail_8 : decode cX7_fail 8 = .ok (.iload_n 1, 1) := by decide +kernel
theorem dX7_fail_9 : decode cX7_fail 9 = .ok (.putfield 38, 3) := by decide +kernel
theorem dX7_fail_12 : decode cX7_fail 12 = .ok (.aload_n 0, 1) := by decide +kernel
theorem dX7_fail_13 : decode cX7_fail 13 = .ok (.aload_n 0, 1) := by decide +kernel
theorem dX7_fail_14 : decode cX7_fail 14 = .ok (.getfield 70, 3) := by decide +kernel
theorem dX7_fail_17 : decode cX7_fail 17 = .ok (.putfield 27, 3) := by decide +kernel
theorem dX7_fail_20 : decode cX7_fail 20 = .ok (.return_, 1) := by decide +kernel
theorem dX7_wantNumber_0 : decode cX7_wantNumber 0 = .ok (.aload_n 0, 1) := by decide +kernel
theorem dX7_wantNumber_1 : decode cX7_wantNumber 1 = .ok (.aload_n 1, 1) := by decide +kernel
theorem dX7_wantNumber_2 : decode cX7_wantNumber 2 = .ok (.invokevirtual 34, 3) := by decide +kernel
theorem dX7_wantNumber_5 : decode cX7_wantNumber 5 = .ok (.aload_n 0, 1) := by decide +kernel
theorem dX7_wantNumber_6 : decode cX7_wantNumber 6 = .ok (.getfield 41, 3) := by decide +kernel
theorem dX7_wantNumber_9 : decode cX7_wantNumber 9 = .ok (.iconst 2, 1) := by decide +kernel
theorem dX7_wantNumber_10 : decode cX7_wantNumber 10 = .ok (.if_icmp .eq 11, 3) := by decide +kernel
theorem dX7_wantNumber_13 : decode cX7_wantNumber 13 = .ok (.aload_n 0, 1) := by decide +kernel
theorem dX7_wantNumber_14 : decode cX7_wantNumber 14 = .ok (.iconst 1, 1) := by decide +kernel
theorem dX7_wantNumber_15 : decode cX7_wantNumber 15 = .ok (.invokevirtual 48, 3) := by decide +kernel
theorem dX7_wantNumber_18 : decode cX7_wantNumber 18 = .ok (.goto 24, 3) := by decide +kernel
theorem dX7_wantNumber_21 : decode cX7_wantNumber 21 = .ok (.aload_n 0, 1) := by decide +kernel
theorem dX7_wantNumber_22 : decode cX7_wantNumber 22 = .ok (.getfield 104, 3) := by decide +kernel
theorem dX7_wantNumber_25 : decode cX7_wantNumber 25 = .ok (.iload_n 2, 1) := by decide +kernel
theorem dX7_wantNumber_26 : decode cX7_wantNumber 26 = .ok (.if_icmp .lt 11, 3) := by decide +kernel
theorem dX7_wantNumber_29 : decode cX7_wantNumber 29 = .ok (.aload_n 0, 1) := by decide +kernel
theorem dX7_wantNumber_30 : decode cX7_wantNumber 30 = .ok (.getfield 104, 3) := by decide +kernel
theorem dX7_wantNumber_33 : decode cX7_wantNumber 33 = .ok (.iload_n 3, 1) := by decide +kernel
theorem dX7_wantNumber_34 : decode cX7_wantNumber 34 = .ok (.if_icmp .le 8, 3) := by decide +kernel
theorem dX7_wantNumber_37 : decode cX7_wantNumber 37 = .ok (.aload_n 0, 1) := by decide +kernel
theorem dX7_wantNumber_38 : decode cX7_wantNumber 38 = .ok (.iconst 2, 1) := by decide +kernel
theorem dX7_wantNumber_39 : decode cX7_wantNumber 39 = .ok (.invokevirtual 48, 3) := by decide +kernel
theorem dX7_wantNumber_42 : decode cX7_wantNumber 42 = .ok (.aload_n 0, 1) := by decide +kernel
theorem dX7_wantNumber_43 : decode cX7_wantNumber 43 = .ok (.getfield 104, 3) := by decide +kernel
theorem dX7_wantNumber_46 : decode cX7_wantNumber 46 = .ok (.ireturn, 1) := by decide +kernel
theorem dX7_isTold_0 : decode cX7_isTold 0 = .ok (.iconst 0, 1) := by decide +kernel
theorem dX7_isTold_1 : decode cX7_isTold 1 = .ok (.istore_n 2, 1) := by decide +kernel
theorem dX7_isTold_2 : decode cX7_isTold 2 = .ok (.iload_n 2, 1) := by decide +kernel
theorem dX7_isTold_3 : decode cX7_isTold 3 = .ok (.aload_n 0, 1) := by decide +kernel
theorem dX7_isTold_4 : decode cX7_isTold 4 = .ok (.getfield 55, 3) := by decide +kernel
theorem dX7_isTold_7 : decode cX7_isTold 7 = .ok (.if_icmp .ge 21, 3) := by decide +kernel
theorem dX7_isTold_10 : decode cX7_isTold 10 = .ok (.aload_n 0, 1) := by decide +kernel
theorem dX7_isTold_11 : decode cX7_isTold 11 = .ok (.getfield 9, 3) := by decide +kernel
theorem dX7_isTold_14 : decode cX7_isTold 14 = .ok (.iload_n 2, 1) := by decide +kernel
theorem dX7_isTold_15 : decode cX7_isTold 15 = .ok (.iaload, 1) := by decide +kernel
theorem dX7_isTold_16 : decode cX7_isTold 16 = .ok (.iload_n 1, 1) := by decide +kernel
theorem dX7_isTold_17 : decode cX7_isTold 17 = .ok (.if_icmp .ne 5, 3) := by decide +kernel
theorem dX7_isTold_20 : decode cX7_isTold 20 = .ok (.iconst 1, 1) := by decide +kernel
theorem dX7_isTold_21 : decode cX7_isTold 21 = .ok (.ireturn, 1) := by decide +kernel
theorem dX7_isTold_22 : decode cX7_isTold 22 = .ok (.iinc 2 1, 3) := by decide +kernel
theorem dX7_isTold_25 : decode cX7_isTold 25 = .ok (.goto (-23), 3) := by decide +kernel
theorem dX7_isTold_28 : decode cX7_isTold 28 = .ok (.iconst 0, 1) := by decide +kernel
theorem dX7_isTold_29 : decode cX7_isTold 29 = .ok (.ireturn, 1) := by decide +kernel
theorem dX7_tellOnce_0 : decode cX7_tellOnce 0 = .ok (.aload_n 0, 1) := by decide +kernel
theorem dX7_tellOnce_1 : decode cX7_tellOnce 1 = .ok (.getfield 64, 3) := by decide +kernel
theorem dX7_tellOnce_4 : decode cX7_tellOnce 4 = .ok (.iload_n 1, 1) := by decide +kernel
theorem dX7_tellOnce_5 : decode cX7_tellOnce 5 = .ok (.iand, 1) := by decide +kernel
theorem dX7_tellOnce_6 : decode cX7_tellOnce 6 = .ok (.ifCond .eq 8, 3) := by decide +kernel
theorem dX7_tellOnce_9 : decode cX7_tellOnce 9 = .ok (.aload_n 0, 1) := by decide +kernel
theorem dX7_tellOnce_10 : decode cX7_tellOnce 10 = .ok (.iconst 3, 1) := by decide +kernel
theorem dX7_tellOnce_11 : decode cX7_tellOnce 11 = .ok (.invokevirtual 48, 3) := by decide +kernel
theorem dX7_tellOnce_14 : decode cX7_tellOnce 14 = .ok (.aload_n 0, 1) := by decide +kernel
theorem dX7_tellOnce_15 : decode cX7_tellOnce 15 = .ok (.dup, 1) := by decide +kernel
theorem dX7_tellOnce_16 : decode cX7_tellOnce 16 = .ok (.getfield 64, 3) := by decide +kernel
theorem dX7_tellOnce_19 : decode cX7_tellOnce 19 = .ok (.iload_n 1, 1) := by decide +kernel
theorem dX7_tellOnce_20 : decode cX7_tellOnce 20 = .ok (.ior, 1) := by decide +kernel
theorem dX7_tellOnce_21 : decode cX7_tellOnce 21 = .ok (.putfield 64, 3) := by decide +kernel
theorem dX7_tellOnce_24 : decode cX7_tellOnce 24 = .ok (.return_, 1) := by decide +kernel
theorem dX8_sumUp_0 : decode cX8_sumUp 0 = .ok (.iconst 0, 1) := by decide +kernel
theorem dX8_sumUp_1 : decode cX8_sumUp 1 = .ok (.istore_n 1, 1) := by decide +kernel
theorem dX8_sumUp_2 : decode cX8_sumUp 2 = .ok (.iload_n 1, 1) := by decide +kernel
theorem dX8_sumUp_3 : decode cX8_sumUp 3 = .ok (.aload_n 0, 1) := by decide +kernel
theorem dX8_sumUp_4 : decode cX8_sumUp 4 = .ok (.getfield 27, 3) := by decide +kernel
theorem dX8_sumUp_7 : decode cX8_sumUp 7 = .ok (.if_icmp .ge 51, 3) := by decide +kernel
theorem dX8_sumUp_10 : decode cX8_sumUp 10 = .ok (.aload_n 0, 1) := by decide +kernel
theorem dX8_sumUp_11 : decode cX8_sumUp 11 = .ok (.getfield 21, 3) := by decide +kernel
theorem dX8_sumUp_14 : decode cX8_sumUp 14 = .ok (.iload_n 1, 1) := by decide +kernel
theorem dX8_sumUp_15 : decode cX8_sumUp 15 = .ok (.iconst 1, 1) := by decide +kernel
theorem dX8_sumUp_16 : decode cX8_sumUp 16 = .ok (.iadd, 1) := by decide +kernel
theorem dX8_sumUp_17 : decode cX8_sumUp 17 = .ok (.aload_n 0, 1) := by decide +kernel
theorem dX8_sumUp_18 : decode cX8_sumUp 18 = .ok (.getfield 21, 3) := by decide +kernel
theorem dX8_sumUp_21 : decode cX8_sumUp 21 = .ok (.iload_n 1, 1) := by decide +kernel
theorem dX8_sumUp_22 : decode cX8_sumUp 22 = .ok (.iaload, 1) := by decide +kernel
theorem dX8_sumUp_23 : decode cX8_sumUp 23 = .ok (.aload_n 0, 1) := by decide +kernel
theorem dX8_sumUp_24 : decode cX8_sumUp 24 = .ok (.getfield 15, 3) := by decide +kernel
theorem dX8_sumUp_27 : decode cX8_sumUp 27 = .ok (.iload_n 1, 1) := by decide +kernel
theorem dX8_sumUp_28 : decode cX8_sumUp 28 = .ok (.iaload, 1) := by decide +kernel
theorem dX8_sumUp_29 : decode cX8_sumUp 29 = .ok (.iadd, 1) := by decide +kernel
theorem dX8_sumUp_30 : decode cX8_sumUp 30 = .ok (.iastore, 1) := by decide +kernel
theorem dX8_sumUp_31 : decode cX8_sumUp 31 = .ok (.aload_n 0, 1) := by decide +kernel
theorem dX8_sumUp_32 : decode cX8_sumUp 32 = .ok (.getfield 24, 3) := by decide +kernel
theorem dX8_sumUp_35 : decode cX8_sumUp 35 = .ok (.iload_n 1, 1) := by decide +kernel
theorem dX8_sumUp_36 : decode cX8_sumUp 36 = .ok (.iconst 1, 1) := by decide +kernel
theorem dX8_sumUp_37 : decode cX8_sumUp 37 = .ok (.iadd, 1) := by decide +kernel
theorem dX8_sumUp_38 : decode cX8_sumUp 38 = .ok (.aload_n 0, 1) := by decide +kernel
theorem dX8_sumUp_39 : decode cX8_sumUp 39 = .ok (.getfield 24, 3) := by decide +kernel
theorem dX8_sumUp_42 : decode cX8_sumUp 42 = .ok (.iload_n 1, 1) := by decide +kernel
theorem dX8_sumUp_43 : decode cX8_sumUp 43 = .ok (.iaload, 1) := by decide +kernel
theorem dX8_sumUp_44 : decode cX8_sumUp 44 = .ok (.aload_n 0, 1) := by decide +kernel
theorem dX8_sumUp_45 : decode cX8_sumUp 45 = .ok (.getfield 18, 3) := by decide +kernel
theorem dX8_sumUp_48 : decode cX8_sumUp 48 = .ok (.iload_n 1, 1) := by decide +kernel
theorem dX8_sumUp_49 : decode cX8_sumUp 49 = .ok (.iaload, 1) := by decide +kernel
theorem dX8_sumUp_50 : decode cX8_sumUp 50 = .ok (.iadd, 1) := by decide +kernel
theorem dX8_sumUp_51 : decode cX8_sumUp 51 = .ok (.iastore, 1) := by decide +kernel
theorem dX8_sumUp_52 : decode cX8_sumUp 52 = .ok (.iinc 1 1, 3) := by decide +kernel
theorem dX8_sumUp_55 : decode cX8_sumUp 55 = .ok (.goto (-53), 3) := by decide +kernel
theorem dX8_sumUp_58 : decode cX8_sumUp 58 = .ok (.return_, 1) := by decide +kernel
theorem dX8_fill_0 : decode cX8_fill 0 = .ok (.aload_n 0, 1) := by decide +kernel
theorem dX8_fill_1 : decode cX8_fill 1 = .ok (.iconst 0, 1) := by decide +kernel
theorem dX8_fill_2 : decode cX8_fill 2 = .ok (.putfield 27, 3) := by decide +kernel
theorem dX8_fill_5 : decode cX8_fill 5 = .ok (.iconst 0, 1) := by decide +kernel
theorem dX8_fill_6 : decode cX8_fill 6 = .ok (.istore_n 2, 1) := by decide +kernel
theorem dX8_fill_7 : decode cX8_fill 7 = .ok (.iload_n 2, 1) := by decide +kernel
theorem dX8_fill_8 : decode cX8_fill 8 = .ok (.sipush 1000, 3) := by decide +kernel
theorem dX8_fill_11 : decode cX8_fill 11 = .ok (.if_icmp .ge 84, 3) := by decide +kernel
theorem dX8_fill_14 : decode cX8_fill 14 = .ok (.aload_n 0, 1) := by decide +kernel
theorem dX8_fill_15 : decode cX8_fill 15 = .ok (.getfield 27, 3) := by decide +kernel
theorem dX8_fill_18 : decode cX8_fill 18 = .ok (.bipush 60, 2) := by decide +kernel
theorem dX8_fill_20 : decode cX8_fill 20 = .ok (.if_icmp .ge 75, 3) := by decide +kernel
theorem dX8_fill_23 : decode cX8_fill 23 = .ok (.aload_n 1, 1) := by decide +kernel
theorem dX8_fill_24 : decode cX8_fill 24 = .ok (.getfield 31, 3) := by decide +kernel
theorem dX8_fill_27 : decode cX8_fill 27 = .ok (.iload_n 2, 1) := by decide +kernel
theorem dX8_fill_28 : decode cX8_fill 28 = .ok (.iaload, 1) := by decide +kernel
theorem dX8_fill_29 : decode cX8_fill 29 = .ok (.aload_n 1, 1) := by decide +kernel
theorem dX8_fill_30 : decode cX8_fill 30 = .ok (.getfield 34, 3) := by decide +kernel
theorem dX8_fill_33 : decode cX8_fill 33 = .ok (.iload_n 2, 1) := by decide +kernel
theorem dX8_fill_34 : decode cX8_fill 34 = .ok (.iaload, 1) := by decide +kernel
theorem dX8_fill_35 : decode cX8_fill 35 = .ok (.iadd, 1) := by decide +kernel
theorem dX8_fill_36 : decode cX8_fill 36 = .ok (.ifCond .le 53, 3) := by decide +kernel
theorem dX8_fill_39 : decode cX8_fill 39 = .ok (.aload_n 0, 1) := by decide +kernel
theorem dX8_fill_40 : decode cX8_fill 40 = .ok (.getfield 9, 3) := by decide +kernel
theorem dX8_fill_43 : decode cX8_fill 43 = .ok (.aload_n 0, 1) := by decide +kernel
theorem dX8_fill_44 : decode cX8_fill 44 = .ok (.getfield 27, 3) := by decide +kernel
theorem dX8_fill_47 : decode cX8_fill 47 = .ok (.iload_n 2, 1) := by decide +kernel
theorem dX8_fill_48 : decode cX8_fill 48 = .ok (.iastore, 1) := by decide +kernel
theorem dX8_fill_49 : decode cX8_fill 49 = .ok (.aload_n 0, 1) := by decide +kernel
theorem dX8_fill_50 : decode cX8_fill 50 = .ok (.getfield 15, 3) := by decide +kernel
theorem dX8_fill_53 : decode cX8_fill 53 = .ok (.aload_n 0, 1) := by decide +kernel
theorem dX8_fill_54 : decode cX8_fill 54 = .ok (.getfield 27, 3) := by decide +kernel
theorem dX8_fill_57 : decode cX8_fill 57 = .ok (.aload_n 1, 1) := by decide +kernel
theorem dX8_fill_58 : decode cX8_fill 58 = .ok (.getfield 31, 3) := by decide +kernel
theorem dX8_fill_61 : decode cX8_fill 61 = .ok (.iload_n 2, 1) := by decide +kernel
theorem dX8_fill_62 : decode cX8_fill 62 = .ok (.iaload, 1) := by decide +kernel
theorem dX8_fill_63 : decode cX8_fill 63 = .ok (.iastore, 1) := by decide +kernel
theorem dX8_fill_64 : decode cX8_fill 64 = .ok (.aload_n 0, 1) := by decide +kernel
theorem dX8_fill_65 : decode cX8_fill 65 = .ok (.getfield 18, 3) := by decide +kernel
theorem dX8_fill_68 : decode cX8_fill 68 = .ok (.aload_n 0, 1) := by decide +kernel
theorem dX8_fill_69 : decode cX8_fill 69 = .ok (.getfield 27, 3) := by decide +kernel
theorem dX8_fill_72 : decode cX8_fill 72 = .ok (.aload_n 1, 1) := by decide +kernel
theorem dX8_fill_73 : decode cX8_fill 73 = .ok (.getfield 34, 3) := by decide +kernel
theorem dX8_fill_76 : decode cX8_fill 76 = .ok (.iload_n 2, 1) := by decide +kernel
theorem dX8_fill_77 : decode cX8_fill 77 = .ok (.iaload, 1) := by decide +kernel
theorem dX8_fill_78 : decode cX8_fill 78 = .ok (.iastore, 1) := by decide +kernel
theorem dX8_fill_79 : decode cX8_fill 79 = .ok (.aload_n 0, 1) := by decide +kernel
theorem dX8_fill_80 : decode cX8_fill 80 = .ok (.dup, 1) := by decide +kernel
theorem dX8_fill_81 : decode cX8_fill 81 = .ok (.getfield 27, 3) := by decide +kernel
theorem dX8_fill_84 : decode cX8_fill 84 = .ok (.iconst 1, 1) := by decide +kernel
theorem dX8_fill_85 : decode cX8_fill 85 = .ok (.iadd, 1) := by decide +kernel
theorem dX8_fill_86 : decode cX8_fill 86 = .ok (.putfield 27, 3) := by decide +kernel
theorem dX8_fill_89 : decode cX8_fill 89 = .ok (.iinc 2 1, 3) := by decide +kernel
theorem dX8_fill_92 : decode cX8_fill 92 = .ok (.goto (-85), 3) := by decide +kernel
theorem dX8_fill_95 : decode cX8_fill 95 = .ok (.aload_n 0, 1) := by decide +kernel
theorem dX8_fill_96 : decode cX8_fill 96 = .ok (.invokevirtual 35, 3) := by decide +kernel
theorem dX8_fill_99 : decode cX8_fill 99 = .ok (.return_, 1) := by decide +kernel
theorem dX8_casesAhead_0 : decode cX8_casesAhead 0 = .ok (.aload_n 0, 1) := by decide +kernel
theorem dX8_casesAhead_1 : decode cX8_casesAhead 1 = .ok (.getfield 21, 3) := by decide +kernel
theorem dX8_casesAhead_4 : decode cX8_casesAhead 4 = .ok (.iload_n 1, 1) := by decide +kernel
theorem dX8_casesAhead_5 : decode cX8_casesAhead 5 = .ok (.iaload, 1) := by decide +kernel
theorem dX8_casesAhead_6 : decode cX8_casesAhead 6 = .ok (.aload_n 0, 1) := by decide +kernel
theorem dX8_casesAhead_7 : decode cX8_casesAhead 7 = .ok (.getfield 24, 3) := by decide +kernel
theorem dX8_casesAhead_10 : decode cX8_casesAhead 10 = .ok (.iload_n 1, 1) := by decide +kernel
theorem dX8_casesAhead_11 : decode cX8_casesAhead 11 = .ok (.iaload, 1) := by decide +kernel
theorem dX8_casesAhead_12 : decode cX8_casesAhead 12 = .ok (.iadd, 1) := by decide +kernel
theorem dX8_casesAhead_13 : decode cX8_casesAhead 13 = .ok (.ireturn, 1) := by decide +kernel
theorem dX8_cases_0 : decode cX8_cases 0 = .ok (.aload_n 0, 1) := by decide +kernel
theorem dX8_cases_1 : decode cX8_cases 1 = .ok (.aload_n 0, 1) := by decide +kernel
theorem dX8_cases_2 : decode cX8_cases 2 = .ok (.getfield 27, 3) := by decide +kernel
theorem dX8_cases_5 : decode cX8_cases 5 = .ok (.invokevirtual 56, 3) := by decide +kernel
theorem dX8_cases_8 : decode cX8_cases 8 = .ok (.ireturn, 1) := by decide +kernel
theorem dX8_holder_0 : decode cX8_holder 0 = .ok (.iconst 0, 1) := by decide +kernel
theorem dX8_holder_1 : decode cX8_holder 1 = .ok (.istore_n 2, 1) := by decide +kernel
theorem dX8_holder_2 : decode cX8_holder 2 = .ok (.aload_n 0, 1) := by decide +kernel
theorem dX8_holder_3 : decode cX8_holder 3 = .ok (.getfield 27, 3) := by decide +kernel
theorem dX8_holder_6 : decode cX8_holder 6 = .ok (.iconst 1, 1) := by decide +kernel
theorem dX8_holder_7 : decode cX8_holder 7 = .ok (.isub, 1) := by decide +kernel
theorem dX8_holder_8 : decode cX8_holder 8 = .ok (.iconst 0, 1) := by decide +kernel
theorem dX8_holder_9 : decode cX8_holder 9 = .ok (.invokestatic 69, 3) := by decide +kernel
theorem dX8_holder_12 : decode cX8_holder 12 = .ok (.istore_n 3, 1) := by decide +kernel
theorem dX8_holder_13 : decode cX8_holder 13 = .ok (.iconst 0, 1) := by decide +kernel
theorem dX8_holder_14 : decode cX8_holder 14 = .ok (.istore 4, 2) := by decide +kernel
theorem dX8_holder_16 : decode cX8_holder 16 = .ok (.iload 4, 2) := by decide +kernel
theorem dX8_holder_18 : decode cX8_holder 18 = .ok (.bipush 60, 2) := by decide +kernel
theorem dX8_holder_20 : decode cX8_holder 20 = .ok (.if_icmp .ge 44, 3) := by decide +kernel
theorem dX8_holder_23 : decode cX8_holder 23 = .ok (.iload_n 2, 1) := by decide +kernel
theorem dX8_holder_24 : decode cX8_holder 24 = .ok (.iload_n 3, 1) := by decide +kernel
theorem dX8_holder_25 : decode cX8_holder 25 = .ok (.if_icmp .ge 39, 3) := by decide +kernel
theorem dX8_holder_28 : decode cX8_holder 28 = .ok (.iload_n 2, 1) := by decide +kernel
theorem dX8_holder_29 : decode cX8_holder 29 = .ok (.iload_n 3, 1) := by decide +kernel
theorem dX8_holder_30 : decode cX8_holder 30 = .ok (.iadd, 1) := by decide +kernel
theorem dX8_holder_31 : decode cX8_holder 31 = .ok (.iconst 2, 1) := by decide +kernel
theorem dX8_holder_32 : decode cX8_holder 32 = .ok (.idiv, 1) := by decide +kernel
theorem dX8_holder_33 : decode cX8_holder 33 = .ok (.istore 5, 2) := by decide +kernel
theorem dX8_holder_35 : decode cX8_holder 35 = .ok (.aload_n 0, 1) := by decide +kernel
theorem dX8_holder_36 : decode cX8_holder 36 = .ok (.iload 5, 2) := by decide +kernel
theorem dX8_holder_38 : decode cX8_holder 38 = .ok (.iconst 1, 1) := by decide +kernel
theorem dX8_holder_39 : decode cX8_holder 39 = .ok (.iadd, 1) := by decide +kernel
theorem dX8_holder_40 : decode cX8_holder 40 = .ok (.invokevirtual 56, 3) := by decide +kernel
theorem dX8_holder_43 : decode cX8_holder 43 = .ok (.iload_n 1, 1) := by decide +kernel
theorem dX8_holder_44 : decode cX8_holder 44 = .ok (.if_icmp .le 9, 3) := by decide +kernel
theorem dX8_holder_47 : decode cX8_holder 47 = .ok (.iload 5, 2) := by decide +kernel
theorem dX8_holder_49 : decode cX8_holder 49 = .ok (.istore_n 3, 1) := by decide +kernel
theorem dX8_holder_50 : decode cX8_holder 50 = .ok (.goto 8, 3) := by decide +kernel
theorem dX8_holder_53 : decode cX8_holder 53 = .ok (.iload 5, 2) := by decide +kernel
theorem dX8_holder_55 : decode cX8_holder 55 = .ok (.iconst 1, 1) := by decide +kernel
theorem dX8_holder_56 : decode cX8_holder 56 = .ok (.iadd, 1) := by decide +kernel
theorem dX8_holder_57 : decode cX8_holder 57 = .ok (.istore_n 2, 1) := by decide +kernel
theorem dX8_holder_58 : decode cX8_holder 58 = .ok (.iinc 4 1, 3) := by decide +kernel
theorem dX8_holder_61 : decode cX8_holder 61 = .ok (.goto (-45), 3) := by decide +kernel
theorem dX8_holder_64 : decode cX8_holder 64 = .ok (.iload_n 2, 1) := by decide +kernel
theorem dX8_holder_65 : decode cX8_holder 65 = .ok (.ireturn, 1) := by decide +kernel
theorem dX8_closeUp_0 : decode cX8_closeUp 0 = .ok (.aload_n 0, 1) := by decide +kernel
theorem dX8_closeUp_1 : decode cX8_closeUp 1 = .ok (.iconst 0, 1) := by decide +kernel
theorem dX8_closeUp_2 : decode cX8_closeUp 2 = .ok (.putfield 27, 3) := by decide +kernel
theorem dX8_closeUp_5 : decode cX8_closeUp 5 = .ok (.iconst 0, 1) := by decide +kernel
theorem dX8_closeUp_6 : decode cX8_closeUp 6 = .ok (.istore_n 2, 1) := by decide +kernel
theorem dX8_closeUp_7 : decode cX8_closeUp 7 = .ok (.iload_n 2, 1) := by decide +kernel
theorem dX8_closeUp_8 : decode cX8_closeUp 8 = .ok (.aload_n 1, 1) := by decide +kernel
theorem dX8_closeUp_9 : decode cX8_closeUp 9 = .ok (.getfield 27, 3) := by decide +kernel
theorem dX8_closeUp_12 : decode cX8_closeUp 12 = .ok (.if_icmp .ge 80, 3) := by decide +kernel
theorem dX8_closeUp_15 : decode cX8_closeUp 15 = .ok (.aload_n 0, 1) := by decide +kernel
theorem dX8_closeUp_16 : decode cX8_closeUp 16 = .ok (.getfield 15, 3) := by decide +kernel
theorem dX8_closeUp_19 : decode cX8_closeUp 19 = .ok (.iload_n 2, 1) := by decide +kernel
theorem dX8_closeUp_20 : decode cX8_closeUp 20 = .ok (.iaload, 1) := by decide +kernel
theorem dX8_closeUp_21 : decode cX8_closeUp 21 = .ok (.aload_n 0, 1) := by decide +kernel
theorem dX8_closeUp_22 : decode cX8_closeUp 22 = .ok (.getfield 18, 3) := by decide +kernel
theorem dX8_closeUp_25 : decode cX8_closeUp 25 = .ok (.iload_n 2, 1) := by decide +kernel
theorem dX8_closeUp_26 : decode cX8_closeUp 26 = .ok (.iaload, 1) := by decide +kernel
theorem dX8_closeUp_27 : decode cX8_closeUp 27 = .ok (.iadd, 1) := by decide +kernel
theorem dX8_closeUp_28 : decode cX8_closeUp 28 = .ok (.ifCond .le 58, 3) := by decide +kernel
theorem dX8_closeUp_31 : decode cX8_closeUp 31 = .ok (.aload_n 0, 1) := by decide +kernel
theorem dX8_closeUp_32 : decode cX8_closeUp 32 = .ok (.getfield 9, 3) := by decide +kernel
theorem dX8_closeUp_35 : decode cX8_closeUp 35 = .ok (.aload_n 0, 1) := by decide +kernel
theorem dX8_closeUp_36 : decode cX8_closeUp 36 = .ok (.getfield 27, 3) := by decide +kernel
theorem dX8_closeUp_39 : decode cX8_closeUp 39 = .ok (.aload_n 1, 1) := by decide +kernel
theorem dX8_closeUp_40 : decode cX8_closeUp 40 = .ok (.getfield 9, 3) := by decide +kernel
theorem dX8_closeUp_43 : decode cX8_closeUp 43 = .ok (.iload_n 2, 1) := by decide +kernel
theorem dX8_closeUp_44 : decode cX8_closeUp 44 = .ok (.iaload, 1) := by decide +kernel
theorem dX8_closeUp_45 : decode cX8_closeUp 45 = .ok (.iastore, 1) := by decide +kernel
theorem dX8_closeUp_46 : decode cX8_closeUp 46 = .ok (.aload_n 0, 1) := by decide +kernel
theorem dX8_closeUp_47 : decode cX8_closeUp 47 = .ok (.getfield 15, 3) := by decide +kernel
theorem dX8_closeUp_50 : decode cX8_closeUp 50 = .ok (.aload_n 0, 1) := by decide +kernel
theorem dX8_closeUp_51 : decode cX8_closeUp 51 = .ok (.getfield 27, 3) := by decide +kernel
theorem dX8_closeUp_54 : decode cX8_closeUp 54 = .ok (.aload_n 0, 1) := by decide +kernel
theorem dX8_closeUp_55 : decode cX8_closeUp 55 = .ok (.getfield 15, 3) := by decide +kernel
theorem dX8_closeUp_58 : decode cX8_closeUp 58 = .ok (.iload_n 2, 1) := by decide +kernel
theorem dX8_closeUp_59 : decode cX8_closeUp 59 = .ok (.iaload, 1) := by decide +kernel
theorem dX8_closeUp_60 : decode cX8_closeUp 60 = .ok (.iastore, 1) := by decide +kernel
theorem dX8_closeUp_61 : decode cX8_closeUp 61 = .ok (.aload_n 0, 1) := by decide +kernel
theorem dX8_closeUp_62 : decode cX8_closeUp 62 = .ok (.getfield 18, 3) := by decide +kernel
theorem dX8_closeUp_65 : decode cX8_closeUp 65 = .ok (.aload_n 0, 1) := by decide +kernel
theorem dX8_closeUp_66 : decode cX8_closeUp 66 = .ok (.getfield 27, 3) := by decide +kernel
theorem dX8_closeUp_69 : decode cX8_closeUp 69 = .ok (.aload_n 0, 1) := by decide +kernel
theorem dX8_closeUp_70 : decode cX8_closeUp 70 = .ok (.getfield 18, 3) := by decide +kernel
theorem dX8_closeUp_73 : decode cX8_closeUp 73 = .ok (.iload_n 2, 1) := by decide +kernel
theorem dX8_closeUp_74 : decode cX8_closeUp 74 = .ok (.iaload, 1) := by decide +kernel
theorem dX8_closeUp_75 : decode cX8_closeUp 75 = .ok (.iastore, 1) := by decide +kernel
theorem dX8_closeUp_76 : decode cX8_closeUp 76 = .ok (.aload_n 0, 1) := by decide +kernel
theorem dX8_closeUp_77 : decode cX8_closeUp 77 = .ok (.dup, 1) := by decide +kernel
theorem dX8_closeUp_78 : decode cX8_closeUp 78 = .ok (.getfield 27, 3) := by decide +kernel
theorem dX8_closeUp_81 : decode cX8_closeUp 81 = .ok (.iconst 1, 1) := by decide +kernel
theorem dX8_closeUp_82 : decode cX8_closeUp 82 = .ok (.iadd, 1) := by decide +kernel
theorem dX8_closeUp_83 : decode cX8_closeUp 83 = .ok (.putfield 27, 3) := by decide +kernel
theorem dX8_closeUp_86 : decode cX8_closeUp 86 = .ok (.iinc 2 1, 3) := by decide +kernel
theorem dX8_closeUp_89 : decode cX8_closeUp 89 = .ok (.goto (-82), 3) := by decide +kernel
theorem dX8_closeUp_92 : decode cX8_closeUp 92 = .ok (.return_, 1) := by decide +kernel
theorem dX8_drawFrom_0 : decode cX8_drawFrom 0 = .ok (.aload_n 0, 1) := by decide +kernel
theorem dX8_drawFrom_1 : decode cX8_drawFrom 1 = .ok (.getfield 15, 3) := by decide +kernel
theorem dX8_drawFrom_4 : decode cX8_drawFrom 4 = .ok (.iconst 0, 1) := by decide +kernel
theorem dX8_drawFrom_5 : decode cX8_drawFrom 5 = .ok (.invokestatic 38, 3) := by decide +kernel
theorem dX8_drawFrom_8 : decode cX8_drawFrom 8 = .ok (.aload_n 0, 1) := by decide +kernel
theorem dX8_drawFrom_9 : decode cX8_drawFrom 9 = .ok (.getfield 18, 3) := by decide +kernel
theorem dX8_drawFrom_12 : decode cX8_drawFrom 12 = .ok (.iconst 0, 1) := by decide +kernel
theorem dX8_drawFrom_13 : decode cX8_drawFrom 13 = .ok (.invokestatic 38, 3) := by decide +kernel
theorem dX8_drawFrom_16 : decode cX8_drawFrom 16 = .ok (.aload_n 1, 1) := by decide +kernel
theorem dX8_drawFrom_17 : decode cX8_drawFrom 17 = .ok (.invokevirtual 44, 3) := by decide +kernel
theorem dX8_drawFrom_20 : decode cX8_drawFrom 20 = .ok (.istore 4, 2) := by decide +kernel
theorem dX8_drawFrom_22 : decode cX8_drawFrom 22 = .ok (.lload_n 2, 1) := by decide +kernel
theorem dX8_drawFrom_23 : decode cX8_drawFrom 23 = .ok (.lstore 5, 2) := by decide +kernel
theorem dX8_drawFrom_25 : decode cX8_drawFrom 25 = .ok (.iconst 0, 1) := by decide +kernel
theorem dX8_drawFrom_26 : decode cX8_drawFrom 26 = .ok (.istore 7, 2) := by decide +kernel
theorem dX8_drawFrom_28 : decode cX8_drawFrom 28 = .ok (.iload 7, 2) := by decide +kernel
theorem dX8_drawFrom_30 : decode cX8_drawFrom 30 = .ok (.iload 4, 2) := by decide +kernel
theorem dX8_drawFrom_32 : decode cX8_drawFrom 32 = .ok (.if_icmp .ge 85, 3) := by decide +kernel
theorem dX8_drawFrom_35 : decode cX8_drawFrom 35 = .ok (.lload 5, 2) := by decide +kernel
theorem dX8_drawFrom_37 : decode cX8_drawFrom 37 = .ok (.ldc2_w 48, 3) := by decide +kernel
theorem dX8_drawFrom_40 : decode cX8_drawFrom 40 = .ok (.lmul, 1) := by decide +kernel
theorem dX8_drawFrom_41 : decode cX8_drawFrom 41 = .ok (.ldc2_w 50, 3) := by decide +kernel
theorem dX8_drawFrom_44 : decode cX8_drawFrom 44 = .ok (.ladd, 1) := by decide +kernel
theorem dX8_drawFrom_45 : decode cX8_drawFrom 45 = .ok (.lstore 5, 2) := by decide +kernel
theorem dX8_drawFrom_47 : decode cX8_drawFrom 47 = .ok (.lload 5, 2) := by decide +kernel
theorem dX8_drawFrom_49 : decode cX8_drawFrom 49 = .ok (.bipush 33, 2) := by decide +kernel
theorem dX8_drawFrom_51 : decode cX8_drawFrom 51 = .ok (.lushr, 1) := by decide +kernel
theorem dX8_drawFrom_52 : decode cX8_drawFrom 52 = .ok (.iload 4, 2) := by decide +kernel
theorem dX8_drawFrom_54 : decode cX8_drawFrom 54 = .ok (.i2l, 1) := by decide +kernel
theorem dX8_drawFrom_55 : decode cX8_drawFrom 55 = .ok (.lrem, 1) := by decide +kernel
theorem dX8_drawFrom_56 : decode cX8_drawFrom 56 = .ok (.l2i, 1) := by decide +kernel
theorem dX8_drawFrom_57 : decode cX8_drawFrom 57 = .ok (.istore 8, 2) := by decide +kernel
theorem dX8_drawFrom_59 : decode cX8_drawFrom 59 = .ok (.aload_n 1, 1) := by decide +kernel
theorem dX8_drawFrom_60 : decode cX8_drawFrom 60 = .ok (.iload 8, 2) := by decide +kernel
theorem dX8_drawFrom_62 : decode cX8_drawFrom 62 = .ok (.invokevirtual 52, 3) := by decide +kernel
theorem dX8_drawFrom_65 : decode cX8_drawFrom 65 = .ok (.istore 9, 2) := by decide +kernel
theorem dX8_drawFrom_67 : decode cX8_drawFrom 67 = .ok (.iload 8, 2) := by decide +kernel
theorem dX8_drawFrom_69 : decode cX8_drawFrom 69 = .ok (.aload_n 1, 1) := by decide +kernel
theorem dX8_drawFrom_70 : decode cX8_drawFrom 70 = .ok (.iload 9, 2) := by decide +kernel
theorem dX8_drawFrom_72 : decode cX8_drawFrom 72 = .ok (.invokevirtual 56, 3) := by decide +kernel
theorem dX8_drawFrom_75 : decode cX8_drawFrom 75 = .ok (.isub, 1) := by decide +kernel
theorem dX8_drawFrom_76 : decode cX8_drawFrom 76 = .ok (.aload_n 1, 1) := by decide +kernel
theorem dX8_drawFrom_77 : decode cX8_drawFrom 77 = .ok (.getfield 15, 3) := by decide +kernel
theorem dX8_drawFrom_80 : decode cX8_drawFrom 80 = .ok (.iload 9, 2) := by decide +kernel
theorem dX8_drawFrom_82 : decode cX8_drawFrom 82 = .ok (.iaload, 1) := by decide +kernel
theorem dX8_drawFrom_83 : decode cX8_drawFrom 83 = .ok (.if_icmp .ge 17, 3) := by decide +kernel
theorem dX8_drawFrom_86 : decode cX8_drawFrom 86 = .ok (.aload_n 0, 1) := by decide +kernel
theorem dX8_drawFrom_87 : decode cX8_drawFrom 87 = .ok (.getfield 15, 3) := by decide +kernel
theorem dX8_drawFrom_90 : decode cX8_drawFrom 90 = .ok (.iload 9, 2) := by decide +kernel
theorem dX8_drawFrom_92 : decode cX8_drawFrom 92 = .ok (.dup2, 1) := by decide +kernel
theorem dX8_drawFrom_93 : decode cX8_drawFrom 93 = .ok (.iaload, 1) := by decide +kernel
theorem dX8_drawFrom_94 : decode cX8_drawFrom 94 = .ok (.iconst 1, 1) := by decide +kernel
theorem dX8_drawFrom_95 : decode cX8_drawFrom 95 = .ok (.iadd, 1) := by decide +kernel
theorem dX8_drawFrom_96 : decode cX8_drawFrom 96 = .ok (.iastore, 1) := by decide +kernel
theorem dX8_drawFrom_97 : decode cX8_drawFrom 97 = .ok (.goto 14, 3) := by decide +kernel
theorem dX8_drawFrom_100 : decode cX8_drawFrom 100 = .ok (.aload_n 0, 1) := by decide +kernel
theorem dX8_drawFrom_101 : decode cX8_drawFrom 101 = .ok (.getfield 18, 3) := by decide +kernel
theorem dX8_drawFrom_104 : decode cX8_drawFrom 104 = .ok (.iload 9, 2) := by decide +kernel
theorem dX8_drawFrom_106 : decode cX8_drawFrom 106 = .ok (.dup2, 1) := by decide +kernel
theorem dX8_drawFrom_107 : decode cX8_drawFrom 107 = .ok (.iaload, 1) := by decide +kernel
theorem dX8_drawFrom_108 : decode cX8_drawFrom 108 = .ok (.iconst 1, 1) := by decide +kernel
theorem dX8_drawFrom_109 : decode cX8_drawFrom 109 = .ok (.iadd, 1) := by decide +kernel
theorem dX8_drawFrom_110 : decode cX8_drawFrom 110 = .ok (.iastore, 1) := by decide +kernel
theorem dX8_drawFrom_111 : decode cX8_drawFrom 111 = .ok (.iinc 7 1, 3) := by decide +kernel
theorem dX8_drawFrom_114 : decode cX8_drawFrom 114 = .ok (.goto (-86), 3) := by decide +kernel
theorem dX8_drawFrom_117 : decode cX8_drawFrom 117 = .ok (.aload_n 0, 1) := by decide +kernel
theorem dX8_drawFrom_118 : decode cX8_drawFrom 118 = .ok (.aload_n 1, 1) := by decide +kernel
theorem dX8_drawFrom_119 : decode cX8_drawFrom 119 = .ok (.invokevirtual 59, 3) := by decide +kernel
theorem dX8_drawFrom_122 : decode cX8_drawFrom 122 = .ok (.aload_n 0, 1) := by decide +kernel
theorem dX8_drawFrom_123 : decode cX8_drawFrom 123 = .ok (.invokevirtual 35, 3) := by decide +kernel
theorem dX8_drawFrom_126 : decode cX8_drawFrom 126 = .ok (.return_, 1) := by decide +kernel
theorem dX8_goods_0 : decode cX8_goods 0 = .ok (.aload_n 0, 1) := by decide +kernel
theorem dX8_goods_1 : decode cX8_goods 1 = .ok (.getfield 21, 3) := by decide +kernel
theorem dX8_goods_4 : decode cX8_goods 4 = .ok (.aload_n 0, 1) := by decide +kernel
theorem dX8_goods_5 : decode cX8_goods 5 = .ok (.getfield 27, 3) := by decide +kernel
theorem dX8_goods_8 : decode cX8_goods 8 = .ok (.iaload, 1) := by decide +kernel
theorem dX8_goods_9 : decode cX8_goods 9 = .ok (.ireturn, 1) := by decide +kernel
theorem dX8_bads_0 : decode cX8_bads 0 = .ok (.aload_n 0, 1) := by decide +kernel
theorem dX8_bads_1 : decode cX8_bads 1 = .ok (.getfield 24, 3) := by decide +kernel
theorem dX8_bads_4 : decode cX8_bads 4 = .ok (.aload_n 0, 1) := by decide +kernel
theorem dX8_bads_5 : decode cX8_bads 5 = .ok (.getfield 27, 3) := by decide +kernel
theorem dX8_bads_8 : decode cX8_bads 8 = .ok (.iaload, 1) := by decide +kernel
theorem dX8_bads_9 : decode cX8_bads 9 = .ok (.ireturn, 1) := by decide +kernel
theorem dX8_hasBoth_0 : decode cX8_hasBoth 0 = .ok (.aload_n 0, 1) := by decide +kernel
theorem dX8_hasBoth_1 : decode cX8_hasBoth 1 = .ok (.invokevirtual 63, 3) := by decide +kernel
theorem dX8_hasBoth_4 : decode cX8_hasBoth 4 = .ok (.ifCond .le 14, 3) := by decide +kernel
theorem dX8_hasBoth_7 : decode cX8_hasBoth 7 = .ok (.aload_n 0, 1) := by decide +kernel
theorem dX8_hasBoth_8 : decode cX8_hasBoth 8 = .ok (.invokevirtual 66, 3) := by decide +kernel
theorem dX8_hasBoth_11 : decode cX8_hasBoth 11 = .ok (.ifCond .le 7, 3) := by decide +kernel
theorem dX8_hasBoth_14 : decode cX8_hasBoth 14 = .ok (.iconst 1, 1) := by decide +kernel
theorem dX8_hasBoth_15 : decode cX8_hasBoth 15 = .ok (.goto 4, 3) := by decide +kernel
theorem dX8_hasBoth_18 : decode cX8_hasBoth 18 = .ok (.iconst 0, 1) := by decide +kernel
theorem dX8_hasBoth_19 : decode cX8_hasBoth 19 = .ok (.ireturn, 1) := by decide +kernel
