theorem dX7_readAt_71 : decode cX7_readAt 71 = .ok (.iconst 0, 1) := by decide +kernel
theorem dX7_readAt_72 : decode cX7_readAt 72 = .ok (.bipush 99, 2) := by decide +kernel
theorem dX7_readAt_74 : decode cX7_readAt 74 = .ok (.invokevirtual 86, 3) := by decide +kernel
theorem dX7_readAt_77 : decode cX7_readAt 77 = .ok (.iastore, 1) := by decide +kernel
theorem dX7_readAt_78 : decode cX7_readAt 78 = .ok (.aload_n 0, 1) := by decide +kernel
theorem dX7_readAt_79 : decode cX7_readAt 79 = .ok (.aload_n 1, 1) := by decide +kernel
theorem dX7_readAt_80 : decode cX7_readAt 80 = .ok (.ldc 102, 2) := by decide +kernel
theorem dX7_readAt_82 : decode cX7_readAt 82 = .ok (.invokevirtual 98, 3) := by decide +kernel
theorem dX7_readAt_85 : decode cX7_readAt 85 = .ok (.aload_n 0, 1) := by decide +kernel
theorem dX7_readAt_86 : decode cX7_readAt 86 = .ok (.getfield 18, 3) := by decide +kernel
theorem dX7_readAt_89 : decode cX7_readAt 89 = .ok (.aload_n 0, 1) := by decide +kernel
theorem dX7_readAt_90 : decode cX7_readAt 90 = .ok (.getfield 55, 3) := by decide +kernel
theorem dX7_readAt_93 : decode cX7_readAt 93 = .ok (.aload_n 0, 1) := by decide +kernel
theorem dX7_readAt_94 : decode cX7_readAt 94 = .ok (.aload_n 1, 1) := by decide +kernel
theorem dX7_readAt_95 : decode cX7_readAt 95 = .ok (.iconst 0, 1) := by decide +kernel
theorem dX7_readAt_96 : decode cX7_readAt 96 = .ok (.bipush 99, 2) := by decide +kernel
theorem dX7_readAt_98 : decode cX7_readAt 98 = .ok (.invokevirtual 86, 3) := by decide +kernel
theorem dX7_readAt_101 : decode cX7_readAt 101 = .ok (.iastore, 1) := by decide +kernel
theorem dX7_readAt_102 : decode cX7_readAt 102 = .ok (.aload_n 0, 1) := by decide +kernel
theorem dX7_readAt_103 : decode cX7_readAt 103 = .ok (.getfield 21, 3) := by decide +kernel
theorem dX7_readAt_106 : decode cX7_readAt 106 = .ok (.aload_n 0, 1) := by decide +kernel
theorem dX7_readAt_107 : decode cX7_readAt 107 = .ok (.getfield 55, 3) := by decide +kernel
theorem dX7_readAt_110 : decode cX7_readAt 110 = .ok (.iconst 0, 1) := by decide +kernel
theorem dX7_readAt_111 : decode cX7_readAt 111 = .ok (.iastore, 1) := by decide +kernel
theorem dX7_readAt_112 : decode cX7_readAt 112 = .ok (.aload_n 0, 1) := by decide +kernel
theorem dX7_readAt_113 : decode cX7_readAt 113 = .ok (.aload_n 1, 1) := by decide +kernel
theorem dX7_readAt_114 : decode cX7_readAt 114 = .ok (.invokevirtual 34, 3) := by decide +kernel
theorem dX7_readAt_117 : decode cX7_readAt 117 = .ok (.aload_n 0, 1) := by decide +kernel
theorem dX7_readAt_118 : decode cX7_readAt 118 = .ok (.aload_n 1, 1) := by decide +kernel
theorem dX7_readAt_119 : decode cX7_readAt 119 = .ok (.ldc 103, 2) := by decide +kernel
theorem dX7_readAt_121 : decode cX7_readAt 121 = .ok (.invokevirtual 75, 3) := by decide +kernel
theorem dX7_readAt_124 : decode cX7_readAt 124 = .ok (.ifCond .eq 25, 3) := by decide +kernel
theorem dX7_readAt_127 : decode cX7_readAt 127 = .ok (.aload_n 0, 1) := by decide +kernel
theorem dX7_readAt_128 : decode cX7_readAt 128 = .ok (.getfield 21, 3) := by decide +kernel
theorem dX7_readAt_131 : decode cX7_readAt 131 = .ok (.aload_n 0, 1) := by decide +kernel
theorem dX7_readAt_132 : decode cX7_readAt 132 = .ok (.getfield 55, 3) := by decide +kernel
theorem dX7_readAt_135 : decode cX7_readAt 135 = .ok (.aload_n 0, 1) := by decide +kernel
theorem dX7_readAt_136 : decode cX7_readAt 136 = .ok (.aload_n 1, 1) := by decide +kernel
theorem dX7_readAt_137 : decode cX7_readAt 137 = .ok (.iconst 0, 1) := by decide +kernel
theorem dX7_readAt_138 : decode cX7_readAt 138 = .ok (.bipush 99, 2) := by decide +kernel
theorem dX7_readAt_140 : decode cX7_readAt 140 = .ok (.invokevirtual 86, 3) := by decide +kernel
theorem dX7_readAt_143 : decode cX7_readAt 143 = .ok (.iastore, 1) := by decide +kernel
theorem dX7_readAt_144 : decode cX7_readAt 144 = .ok (.aload_n 0, 1) := by decide +kernel
theorem dX7_readAt_145 : decode cX7_readAt 145 = .ok (.aload_n 1, 1) := by decide +kernel
theorem dX7_readAt_146 : decode cX7_readAt 146 = .ok (.invokevirtual 34, 3) := by decide +kernel
theorem dX7_readAt_149 : decode cX7_readAt 149 = .ok (.aload_n 0, 1) := by decide +kernel
theorem dX7_readAt_150 : decode cX7_readAt 150 = .ok (.dup, 1) := by decide +kernel
theorem dX7_readAt_151 : decode cX7_readAt 151 = .ok (.getfield 55, 3) := by decide +kernel
theorem dX7_readAt_154 : decode cX7_readAt 154 = .ok (.iconst 1, 1) := by decide +kernel
theorem dX7_readAt_155 : decode cX7_readAt 155 = .ok (.iadd, 1) := by decide +kernel
theorem dX7_readAt_156 : decode cX7_readAt 156 = .ok (.putfield 55, 3) := by decide +kernel
theorem dX7_readAt_159 : decode cX7_readAt 159 = .ok (.return_, 1) := by decide +kernel
theorem dX7_isTold_0 : decode cX7_isTold 0 = .ok (.iconst 0, 1) := by decide +kernel
theorem dX7_isTold_1 : decode cX7_isTold 1 = .ok (.istore_n 2, 1) := by decide +kernel
theorem dX7_isTold_2 : decode cX7_isTold 2 = .ok (.iload_n 2, 1) := by decide +kernel
theorem dX7_isTold_3 : decode cX7_isTold 3 = .ok (.aload_n 0, 1) := by decide +kernel
theorem dX7_isTold_4 : decode cX7_isTold 4 = .ok (.getfield 55, 3) := by decide +kernel
theorem dX7_isTold_7 : decode cX7_isTold 7 = .ok (.if_icmp .ge 21, 3) := by decide +kernel
theorem dX7_isTold_10 : decode cX7_isTold 10 = .ok (.aload_n 0, 1) := by decide +kernel
theorem dX7_isTold_11 : decode cX7_isTold 11 = .ok (.getfield 9, 3) := by decide +kernel
theorem dX7_isTold_14 : decode cX7_isTold 14 = .ok (.iload_n 2, 1) := by decide +kernel
theorem dX7_isTold_15 : decode cX7_isTold 15 = .ok (.iaload, 1) := by decide +kernel
theorem dX7_isTold_16 : decode cX7_isTold 16 = .ok (.iload_n 1, 1) := by decide +kernel
theorem dX7_isTold_17 : decode cX7_isTold 17 = .ok (.if_icmp .ne 5, 3) := by decide +kernel
theorem dX7_isTold_20 : decode cX7_isTold 20 = .ok (.iconst 1, 1) := by decide +kernel
theorem dX7_isTold_21 : decode cX7_isTold 21 = .ok (.ireturn, 1) := by decide +kernel
theorem dX7_isTold_22 : decode cX7_isTold 22 = .ok (.iinc 2 1, 3) := by decide +kernel
theorem dX7_isTold_25 : decode cX7_isTold 25 = .ok (.goto (-23), 3) := by decide +kernel
theorem dX7_isTold_28 : decode cX7_isTold 28 = .ok (.iconst 0, 1) := by decide +kernel
theorem dX7_isTold_29 : decode cX7_isTold 29 = .ok (.ireturn, 1) := by decide +kernel
theorem dX7_wantWord_0 : decode cX7_wantWord 0 = .ok (.aload_n 0, 1) := by decide +kernel
theorem dX7_wantWord_1 : decode cX7_wantWord 1 = .ok (.aload_n 1, 1) := by decide +kernel
theorem dX7_wantWord_2 : decode cX7_wantWord 2 = .ok (.invokevirtual 34, 3) := by decide +kernel
theorem dX7_wantWord_5 : decode cX7_wantWord 5 = .ok (.aload_n 0, 1) := by decide +kernel
theorem dX7_wantWord_6 : decode cX7_wantWord 6 = .ok (.aload_n 1, 1) := by decide +kernel
theorem dX7_wantWord_7 : decode cX7_wantWord 7 = .ok (.aload_n 2, 1) := by decide +kernel
theorem dX7_wantWord_8 : decode cX7_wantWord 8 = .ok (.invokevirtual 75, 3) := by decide +kernel
theorem dX7_wantWord_11 : decode cX7_wantWord 11 = .ok (.ifCond .ne 8, 3) := by decide +kernel
theorem dX7_wantWord_14 : decode cX7_wantWord 14 = .ok (.aload_n 0, 1) := by decide +kernel
theorem dX7_wantWord_15 : decode cX7_wantWord 15 = .ok (.iconst 1, 1) := by decide +kernel
theorem dX7_wantWord_16 : decode cX7_wantWord 16 = .ok (.invokevirtual 48, 3) := by decide +kernel
theorem dX7_wantWord_19 : decode cX7_wantWord 19 = .ok (.return_, 1) := by decide +kernel
theorem dX7_wantNumber_0 : decode cX7_wantNumber 0 = .ok (.aload_n 0, 1) := by decide +kernel
theorem dX7_wantNumber_1 : decode cX7_wantNumber 1 = .ok (.aload_n 1, 1) := by decide +kernel
theorem dX7_wantNumber_2 : decode cX7_wantNumber 2 = .ok (.invokevirtual 34, 3) := by decide +kernel
theorem dX7_wantNumber_5 : decode cX7_wantNumber 5 = .ok (.aload_n 0, 1) := by decide +kernel
theorem dX7_wantNumber_6 : decode cX7_wantNumber 6 = .ok (.getfield 41, 3) := by decide +kernel
theorem dX7_wantNumber_9 : decode cX7_wantNumber 9 = .ok (.iconst 2, 1) := by decide +kernel
theorem dX7_wantNumber_10 : decode cX7_wantNumber 10 = .ok (.if_icmp .eq 11, 3) := by decide +kernel
theorem dX7_wantNumber_13 : decode cX7_wantNumber 13 = .ok (.aload_n 0, 1) := by decide +kernel
theorem dX7_wantNumber_14 : decode cX7_wantNumber 14 = .ok (.iconst 1, 1) := by decide +kernel
theorem dX7_wantNumber_15 : decode cX7_wantNumber 15 = .ok (.invokevirtual 48, 3) := by decide +kernel
theorem dX7_wantNumber_18 : decode cX7_wantNumber 18 = .ok (.goto 24, 3) := by decide +kernel
theorem dX7_wantNumber_21 : decode cX7_wantNumber 21 = .ok (.aload_n 0, 1) := by decide +kernel
theorem dX7_wantNumber_22 : decode cX7_wantNumber 22 = .ok (.getfield 104, 3) := by decide +kernel
theorem dX7_wantNumber_25 : decode cX7_wantNumber 25 = .ok (.iload_n 2, 1) := by decide +kernel
theorem dX7_wantNumber_26 : decode cX7_wantNumber 26 = .ok (.if_icmp .lt 11, 3) := by decide +kernel
theorem dX7_wantNumber_29 : decode cX7_wantNumber 29 = .ok (.aload_n 0, 1) := by decide +kernel
theorem dX7_wantNumber_30 : decode cX7_wantNumber 30 = .ok (.getfield 104, 3) := by decide +kernel
theorem dX7_wantNumber_33 : decode cX7_wantNumber 33 = .ok (.iload_n 3, 1) := by decide +kernel
theorem dX7_wantNumber_34 : decode cX7_wantNumber 34 = .ok (.if_icmp .le 8, 3) := by decide +kernel
theorem dX7_wantNumber_37 : decode cX7_wantNumber 37 = .ok (.aload_n 0, 1) := by decide +kernel
theorem dX7_wantNumber_38 : decode cX7_wantNumber 38 = .ok (.iconst 2, 1) := by decide +kernel
theorem dX7_wantNumber_39 : decode cX7_wantNumber 39 = .ok (.invokevirtual 48, 3) := by decide +kernel
theorem dX7_wantNumber_42 : decode cX7_wantNumber 42 = .ok (.aload_n 0, 1) := by decide +kernel
theorem dX7_wantNumber_43 : decode cX7_wantNumber 43 = .ok (.getfield 104, 3) := by decide +kernel
theorem dX7_wantNumber_46 : decode cX7_wantNumber 46 = .ok (.ireturn, 1) := by decide +kernel
theorem dX7_isWord_0 : decode cX7_isWord 0 = .ok (.aload_n 0, 1) := by decide +kernel
theorem dX7_isWord_1 : decode cX7_isWord 1 = .ok (.getfield 41, 3) := by decide +kernel
theorem dX7_isWord_4 : decode cX7_isWord 4 = .ok (.iconst 1, 1) := by decide +kernel
theorem dX7_isWord_5 : decode cX7_isWord 5 = .ok (.if_icmp .ne 19, 3) := by decide +kernel
theorem dX7_isWord_8 : decode cX7_isWord 8 = .ok (.aload_n 0, 1) := by decide +kernel
theorem dX7_isWord_9 : decode cX7_isWord 9 = .ok (.getfield 67, 3) := by decide +kernel
theorem dX7_isWord_12 : decode cX7_isWord 12 = .ok (.aload_n 0, 1) := by decide +kernel
theorem dX7_isWord_13 : decode cX7_isWord 13 = .ok (.getfield 70, 3) := by decide +kernel
theorem dX7_isWord_16 : decode cX7_isWord 16 = .ok (.isub, 1) := by decide +kernel
theorem dX7_isWord_17 : decode cX7_isWord 17 = .ok (.aload_n 2, 1) := by decide +kernel
theorem dX7_isWord_18 : decode cX7_isWord 18 = .ok (.invokevirtual 107, 3) := by decide +kernel
theorem dX7_isWord_21 : decode cX7_isWord 21 = .ok (.if_icmp .eq 5, 3) := by decide +kernel
theorem dX7_isWord_24 : decode cX7_isWord 24 = .ok (.iconst 0, 1) := by decide +kernel
theorem dX7_isWord_25 : decode cX7_isWord 25 = .ok (.ireturn, 1) := by decide +kernel
theorem dX7_isWord_26 : decode cX7_isWord 26 = .ok (.iconst 0, 1) := by decide +kernel
theorem dX7_isWord_27 : decode cX7_isWord 27 = .ok (.istore_n 3, 1) := by decide +kernel
theorem dX7_isWord_28 : decode cX7_isWord 28 = .ok (.iload_n 3, 1) := by decide +kernel
theorem dX7_isWord_29 : decode cX7_isWord 29 = .ok (.aload_n 2, 1) := by decide +kernel
theorem dX7_isWord_30 : decode cX7_isWord 30 = .ok (.invokevirtual 107, 3) := by decide +kernel
theorem dX7_isWord_33 : decode cX7_isWord 33 = .ok (.if_icmp .ge 30, 3) := by decide +kernel
theorem dX7_isWord_36 : decode cX7_isWord 36 = .ok (.aload_n 1, 1) := by decide +kernel
theorem dX7_isWord_37 : decode cX7_isWord 37 = .ok (.getfield 113, 3) := by decide +kernel
theorem dX7_isWord_40 : decode cX7_isWord 40 = .ok (.aload_n 0, 1) := by decide +kernel
theorem dX7_isWord_41 : decode cX7_isWord 41 = .ok (.getfield 70, 3) := by decide +kernel
theorem dX7_isWord_44 : decode cX7_isWord 44 = .ok (.iload_n 3, 1) := by decide +kernel
theorem dX7_isWord_45 : decode cX7_isWord 45 = .ok (.iadd, 1) := by decide +kernel
theorem dX7_isWord_46 : decode cX7_isWord 46 = .ok (.iaload, 1) := by decide +kernel
theorem dX7_isWord_47 : decode cX7_isWord 47 = .ok (.aload_n 2, 1) := by decide +kernel
theorem dX7_isWord_48 : decode cX7_isWord 48 = .ok (.iload_n 3, 1) := by decide +kernel
theorem dX7_isWord_49 : decode cX7_isWord 49 = .ok (.invokevirtual 118, 3) := by decide +kernel
theorem dX7_isWord_52 : decode cX7_isWord 52 = .ok (.if_icmp .eq 5, 3) := by decide +kernel
theorem dX7_isWord_55 : decode cX7_isWord 55 = .ok (.iconst 0, 1) := by decide +kernel
theorem dX7_isWord_56 : decode cX7_isWord 56 = .ok (.ireturn, 1) := by decide +kernel
theorem dX7_isWord_57 : decode cX7_isWord 57 = .ok (.iinc 3 1, 3) := by decide +kernel
theorem dX7_isWord_60 : decode cX7_isWord 60 = .ok (.goto (-32), 3) := by decide +kernel
theorem dX7_isWord_63 : decode cX7_isWord 63 = .ok (.iconst 1, 1) := by decide +kernel
theorem dX7_isWord_64 : decode cX7_isWord 64 = .ok (.ireturn, 1) := by decide +kernel
theorem dX7_step_0 : decode cX7_step 0 = .ok (.aload_n 0, 1) := by decide +kernel
theorem dX7_step_1 : decode cX7_step 1 = .ok (.getfield 38, 3) := by decide +kernel
theorem dX7_step_4 : decode cX7_step 4 = .ok (.ifCond .eq 4, 3) := by decide +kernel
theorem dX7_step_7 : decode cX7_step 7 = .ok (.return_, 1) := by decide +kernel
theorem dX7_step_8 : decode cX7_step 8 = .ok (.aload_n 0, 1) := by decide +kernel
theorem dX7_step_9 : decode cX7_step 9 = .ok (.getfield 67, 3) := by decide +kernel
theorem dX7_step_12 : decode cX7_step 12 = .ok (.aload_n 1, 1) := by decide +kernel
theorem dX7_step_13 : decode cX7_step 13 = .ok (.getfield 122, 3) := by decide +kernel
theorem dX7_step_16 : decode cX7_step 16 = .ok (.if_icmp .ge 31, 3) := by decide +kernel
theorem dX7_step_19 : decode cX7_step 19 = .ok (.aload_n 1, 1) := by decide +kernel
theorem dX7_step_20 : decode cX7_step 20 = .ok (.getfield 113, 3) := by decide +kernel
theorem dX7_step_23 : decode cX7_step 23 = .ok (.aload_n 0, 1) := by decide +kernel
theorem dX7_step_24 : decode cX7_step 24 = .ok (.getfield 67, 3) := by decide +kernel
theorem dX7_step_27 : decode cX7_step 27 = .ok (.iaload, 1) := by decide +kernel
theorem dX7_step_28 : decode cX7_step 28 = .ok (.invokestatic 125, 3) := by decide +kernel
theorem dX7_step_31 : decode cX7_step 31 = .ok (.ifCond .eq 16, 3) := by decide +kernel
theorem dX7_step_34 : decode cX7_step 34 = .ok (.aload_n 0, 1) := by decide +kernel
theorem dX7_step_35 : decode cX7_step 35 = .ok (.dup, 1) := by decide +kernel
theorem dX7_step_36 : decode cX7_step 36 = .ok (.getfield 67, 3) := by decide +kernel
theorem dX7_step_39 : decode cX7_step 39 = .ok (.iconst 1, 1) := by decide +kernel
theorem dX7_step_40 : decode cX7_step 40 = .ok (.iadd, 1) := by decide +kernel
theorem dX7_step_41 : decode cX7_step 41 = .ok (.putfield 67, 3) := by decide +kernel
theorem dX7_step_44 : decode cX7_step 44 = .ok (.goto (-36), 3) := by decide +kernel
theorem dX7_step_47 : decode cX7_step 47 = .ok (.aload_n 0, 1) := by decide +kernel
theorem dX7_step_48 : decode cX7_step 48 = .ok (.aload_n 0, 1) := by decide +kernel
theorem dX7_step_49 : decode cX7_step 49 = .ok (.getfield 67, 3) := by decide +kernel
theorem dX7_step_52 : decode cX7_step 52 = .ok (.putfield 70, 3) := by decide +kernel
theorem dX7_step_55 : decode cX7_step 55 = .ok (.aload_n 0, 1) := by decide +kernel
theorem dX7_step_56 : decode cX7_step 56 = .ok (.aload_n 0, 1) := by decide +kernel
theorem dX7_step_57 : decode cX7_step 57 = .ok (.getfield 67, 3) := by decide +kernel
theorem dX7_step_60 : decode cX7_step 60 = .ok (.aload_n 1, 1) := by decide +kernel
theorem dX7_step_61 : decode cX7_step 61 = .ok (.getfield 122, 3) := by decide +kernel
theorem dX7_step_64 : decode cX7_step 64 = .ok (.if_icmp .ge 18, 3) := by decide +kernel
theorem dX7_step_67 : decode cX7_step 67 = .ok (.aload_n 1, 1) := by decide +kernel
theorem dX7_step_68 : decode cX7_step 68 = .ok (.getfield 113, 3) := by decide +kernel
theorem dX7_step_71 : decode cX7_step 71 = .ok (.aload_n 0, 1) := by decide +kernel
theorem dX7_step_72 : decode cX7_step 72 = .ok (.getfield 67, 3) := by decide +kernel
theorem dX7_step_75 : decode cX7_step 75 = .ok (.iaload, 1) := by decide +kernel
theorem dX7_step_76 : decode cX7_step 76 = .ok (.invokestatic 128, 3) := by decide +kernel
theorem dX7_step_79 : decode cX7_step 79 = .ok (.goto 4, 3) := by decide +kernel
theorem dX7_step_82 : decode cX7_step 82 = .ok (.iconst 0, 1) := by decide +kernel
theorem dX7_step_83 : decode cX7_step 83 = .ok (.putfield 41, 3) := by decide +kernel
theorem dX7_step_86 : decode cX7_step 86 = .ok (.aload_n 0, 1) := by decide +kernel
theorem dX7_step_87 : decode cX7_step 87 = .ok (.iconst 0, 1) := by decide +kernel
theorem dX7_step_88 : decode cX7_step 88 = .ok (.putfield 104, 3) := by decide +kernel
theorem dX7_step_91 : decode cX7_step 91 = .ok (.aload_n 0, 1) := by decide +kernel
theorem dX7_step_92 : decode cX7_step 92 = .ok (.getfield 41, 3) := by decide +kernel
theorem dX7_step_95 : decode cX7_step 95 = .ok (.iconst 3, 1) := by decide +kernel
theorem dX7_step_96 : decode cX7_step 96 = .ok (.if_icmp .eq 11, 3) := by decide +kernel
theorem dX7_step_99 : decode cX7_step 99 = .ok (.aload_n 0, 1) := by decide +kernel
theorem dX7_step_100 : decode cX7_step 100 = .ok (.getfield 41, 3) := by decide +kernel
theorem dX7_step_103 : decode cX7_step 103 = .ok (.iconst 4, 1) := by decide +kernel
theorem dX7_step_104 : decode cX7_step 104 = .ok (.if_icmp .ne 14, 3) := by decide +kernel
theorem dX7_step_107 : decode cX7_step 107 = .ok (.aload_n 0, 1) := by decide +kernel
theorem dX7_step_108 : decode cX7_step 108 = .ok (.dup, 1) := by decide +kernel
theorem dX7_step_109 : decode cX7_step 109 = .ok (.getfield 67, 3) := by decide +kernel
theorem dX7_step_112 : decode cX7_step 112 = .ok (.iconst 1, 1) := by decide +kernel
theorem dX7_step_113 : decode cX7_step 113 = .ok (.iadd, 1) := by decide +kernel
theorem dX7_step_114 : decode cX7_step 114 = .ok (.putfield 67, 3) := by decide +kernel
theorem dX7_step_117 : decode cX7_step 117 = .ok (.return_, 1) := by decide +kernel
theorem dX7_step_118 : decode cX7_step 118 = .ok (.aload_n 0, 1) := by decide +kernel
theorem dX7_step_119 : decode cX7_step 119 = .ok (.getfield 67, 3) := by decide +kernel
theorem dX7_step_122 : decode cX7_step 122 = .ok (.aload_n 1, 1) := by decide +kernel
theorem dX7_step_123 : decode cX7_step 123 = .ok (.getfield 122, 3) := by decide +kernel
theorem dX7_step_126 : decode cX7_step 126 = .ok (.if_icmp .ge 72, 3) := by decide +kernel
theorem dX7_step_129 : decode cX7_step 129 = .ok (.aload_n 1, 1) := by decide +kernel
theorem dX7_step_130 : decode cX7_step 130 = .ok (.getfield 113, 3) := by decide +kernel
theorem dX7_step_133 : decode cX7_step 133 = .ok (.aload_n 0, 1) := by decide +kernel
theorem dX7_step_134 : decode cX7_step 134 = .ok (.getfield 67, 3) := by decide +kernel
theorem dX7_step_137 : decode cX7_step 137 = .ok (.iaload, 1) := by decide +kernel
theorem dX7_step_138 : decode cX7_step 138 = .ok (.invokestatic 128, 3) := by decide +kernel
theorem dX7_step_141 : decode cX7_step 141 = .ok (.aload_n 0, 1) := by decide +kernel
theorem dX7_step_142 : decode cX7_step 142 = .ok (.getfield 41, 3) := by decide +kernel
theorem dX7_step_145 : decode cX7_step 145 = .ok (.if_icmp .ne 53, 3) := by decide +kernel
theorem dX7_step_148 : decode cX7_step 148 = .ok (.aload_n 0, 1) := by decide +kernel
theorem dX7_step_149 : decode cX7_step 149 = .ok (.getfield 41, 3) := by decide +kernel
theorem dX7_step_152 : decode cX7_step 152 = .ok (.iconst 2, 1) := by decide +kernel
theorem dX7_step_153 : decode cX7_step 153 = .ok (.if_icmp .ne 32, 3) := by decide +kernel
theorem dX7_step_156 : decode cX7_step 156 = .ok (.aload_n 0, 1) := by decide +kernel
theorem dX7_step_157 : decode cX7_step 157 = .ok (.aload_n 0, 1) := by decide +kernel
theorem dX7_step_158 : decode cX7_step 158 = .ok (.getfield 104, 3) := by decide +kernel
theorem dX7_step_161 : decode cX7_step 161 = .ok (.bipush 10, 2) := by decide +kernel
theorem dX7_step_163 : decode cX7_step 163 = .ok (.imul, 1) := by decide +kernel
theorem dX7_step_164 : decode cX7_step 164 = .ok (.aload_n 1, 1) := by decide +kernel
theorem dX7_step_165 : decode cX7_step 165 = .ok (.getfield 113, 3) := by decide +kernel
theorem dX7_step_168 : decode cX7_step 168 = .ok (.aload_n 0, 1) := by decide +kernel
theorem dX7_step_169 : decode cX7_step 169 = .ok (.getfield 67, 3) := by decide +kernel
theorem dX7_step_172 : decode cX7_step 172 = .ok (.iaload, 1) := by decide +kernel
theorem dX7_step_173 : decode cX7_step 173 = .ok (.iadd, 1) := by decide +kernel
theorem dX7_step_174 : decode cX7_step 174 = .ok (.bipush 48, 2) := by decide +kernel
theorem dX7_step_176 : decode cX7_step 176 = .ok (.isub, 1) := by decide +kernel
theorem dX7_step_177 : decode cX7_step 177 = .ok (.ldc 132, 2) := by decide +kernel
theorem dX7_step_179 : decode cX7_step 179 = .ok (.invokestatic 133, 3) := by decide +kernel
theorem dX7_step_182 : decode cX7_step 182 = .ok (.putfield 104, 3) := by decide +kernel
theorem dX7_step_185 : decode cX7_step 185 = .ok (.aload_n 0, 1) := by decide +kernel
theorem dX7_step_186 : decode cX7_step 186 = .ok (.dup, 1) := by decide +kernel
theorem dX7_step_187 : decode cX7_step 187 = .ok (.getfield 67, 3) := by decide +kernel
theorem dX7_step_190 : decode cX7_step 190 = .ok (.iconst 1, 1) := by decide +kernel
theorem dX7_step_191 : decode cX7_step 191 = .ok (.iadd, 1) := by decide +kernel
theorem dX7_step_192 : decode cX7_step 192 = .ok (.putfield 67, 3) := by decide +kernel
theorem dX7_step_195 : decode cX7_step 195 = .ok (.goto (-77), 3) := by decide +kernel
theorem dX7_step_198 : decode cX7_step 198 = .ok (.return_, 1) := by decide +kernel
theorem dX7_isBlank_0 : decode cX7_isBlank 0 = .ok (.iload_n 0, 1) := by decide +kernel
theorem dX7_isBlank_1 : decode cX7_isBlank 1 = .ok (.bipush 32, 2) := by decide +kernel
theorem dX7_isBlank_3 : decode cX7_isBlank 3 = .ok (.if_icmp .eq 9, 3) := by decide +kernel
theorem dX7_isBlank_6 : decode cX7_isBlank 6 = .ok (.iload_n 0, 1) := by decide +kernel
theorem dX7_isBlank_7 : decode cX7_isBlank 7 = .ok (.bipush 10, 2) := by decide +kernel
theorem dX7_isBlank_9 : decode cX7_isBlank 9 = .ok (.if_icmp .ne 7, 3) := by decide +kernel
theorem dX7_isBlank_12 : decode cX7_isBlank 12 = .ok (.iconst 1, 1) := by decide +kernel
theorem dX7_isBlank_13 : decode cX7_isBlank 13 = .ok (.goto 4, 3) := by decide +kernel
theorem dX7_isBlank_16 : decode cX7_isBlank 16 = .ok (.iconst 0, 1) := by decide +kernel
theorem dX7_isBlank_17 : decode cX7_isBlank 17 = .ok (.ireturn, 1) := by decide +kernel
theorem dX7_kindOf_0 : decode cX7_kindOf 0 = .ok (.iload_n 0, 1) := by decide +kernel
theorem dX7_kindOf_1 : decode cX7_kindOf 1 = .ok (.bipush 97, 2) := by decide +kernel
theorem dX7_kindOf_3 : decode cX7_kindOf 3 = .ok (.if_icmp .lt 11, 3) := by decide +kernel
theorem dX7_kindOf_6 : decode cX7_kindOf 6 = .ok (.iload_n 0, 1) := by decide +kernel
theorem dX7_kindOf_7 : decode cX7_kindOf 7 = .ok (.bipush 122, 2) := by decide +kernel
theorem dX7_kindOf_9 : decode cX7_kindOf 9 = .ok (.if_icmp .gt 5, 3) := by decide +kernel
theorem dX7_kindOf_12 : decode cX7_kindOf 12 = .ok (.iconst 1, 1) := by decide +kernel
theorem dX7_kindOf_13 : decode cX7_kindOf 13 = .ok (.ireturn, 1) := by decide +kernel
theorem dX7_kindOf_14 : decode cX7_kindOf 14 = .ok (.iload_n 0, 1) := by decide +kernel
theorem dX7_kindOf_15 : decode cX7_kindOf 15 = .ok (.bipush 48, 2) := by decide +kernel
theorem dX7_kindOf_17 : decode cX7_kindOf 17 = .ok (.if_icmp .lt 11, 3) := by decide +kernel
theorem dX7_kindOf_20 : decode cX7_kindOf 20 = .ok (.iload_n 0, 1) := by decide +kernel
theorem dX7_kindOf_21 : decode cX7_kindOf 21 = .ok (.bipush 57, 2) := by decide +kernel
theorem dX7_kindOf_23 : decode cX7_kindOf 23 = .ok (.if_icmp .gt 5, 3) := by decide +kernel
theorem dX7_kindOf_26 : decode cX7_kindOf 26 = .ok (.iconst 2, 1) := by decide +kernel
theorem dX7_kindOf_27 : decode cX7_kindOf 27 = .ok (.ireturn, 1) := by decide +kernel
theorem dX7_kindOf_28 : decode cX7_kindOf 28 = .ok (.iload_n 0, 1) := by decide +kernel
theorem dX7_kindOf_29 : decode cX7_kindOf 29 = .ok (.bipush 59, 2) := by decide +kernel
theorem dX7_kindOf_31 : decode cX7_kindOf 31 = .ok (.if_icmp .ne 7, 3) := by decide +kernel
theorem dX7_kindOf_34 : decode cX7_kindOf 34 = .ok (.iconst 3, 1) := by decide +kernel
theorem dX7_kindOf_35 : decode cX7_kindOf 35 = .ok (.goto 4, 3) := by decide +kernel
theorem dX7_kindOf_38 : decode cX7_kindOf 38 = .ok (.iconst 4, 1) := by decide +kernel
theorem dX7_kindOf_39 : decode cX7_kindOf 39 = .ok (.ireturn, 1) := by decide +kernel
theorem dX8_init_0 : decode cX8_init 0 = .ok (.aload_n 0, 1) := by decide +kernel
theorem dX8_init_1 : decode cX8_init 1 = .ok (.invokespecial 3, 3) := by decide +kernel
theorem dX8_init_4 : decode cX8_init 4 = .ok (.aload_n 0, 1) := by decide +kernel
theorem dX8_init_5 : decode cX8_init 5 = .ok (.bipush 60, 2) := by decide +kernel
theorem dX8_init_7 : decode cX8_init 7 = .ok (.newarray .int, 2) := by decide +kernel
theorem dX8_init_9 : decode cX8_init 9 = .ok (.putfield 9, 3) := by decide +kernel
theorem dX8_init_12 : decode cX8_init 12 = .ok (.aload_n 0, 1) := by decide +kernel
theorem dX8_init_13 : decode cX8_init 13 = .ok (.bipush 60, 2) := by decide +kernel
theorem dX8_init_15 : decode cX8_init 15 = .ok (.newarray .int, 2) := by decide +kernel
theorem dX8_init_17 : decode cX8_init 17 = .ok (.putfield 15, 3) := by decide +kernel
theorem dX8_init_20 : decode cX8_init 20 = .ok (.aload_n 0, 1) := by decide +kernel
theorem dX8_init_21 : decode cX8_init 21 = .ok (.bipush 60, 2) := by decide +kernel
theorem dX8_init_23 : decode cX8_init 23 = .ok (.newarray .int, 2) := by decide +kernel
theorem dX8_init_25 : decode cX8_init 25 = .ok (.putfield 18, 3) := by decide +kernel
theorem dX8_init_28 : decode cX8_init 28 = .ok (.aload_n 0, 1) := by decide +kernel
theorem dX8_init_29 : decode cX8_init 29 = .ok (.bipush 61, 2) := by decide +kernel
theorem dX8_init_31 : decode cX8_init 31 = .ok (.newarray .int, 2) := by decide +kernel
theorem dX8_init_33 : decode cX8_init 33 = .ok (.putfield 21, 3) := by decide +kernel
theorem dX8_init_36 : decode cX8_init 36 = .ok (.aload_n 0, 1) := by decide +kernel
theorem dX8_init_37 : decode cX8_init 37 = .ok (.bipush 61, 2) := by decide +kernel
theorem dX8_init_39 : decode cX8_init 39 = .ok (.newarray .int, 2) := by decide +kernel
theorem dX8_init_41 : decode cX8_init 41 = .ok (.putfield 24, 3) := by decide +kernel
theorem dX8_init_44 : decode cX8_init 44 = .ok (.return_, 1) := by decide +kernel
theorem dX8_fill_0 : decode cX8_fill 0 = .ok (.aload_n 0, 1) := by decide +kernel
theorem dX8_fill_1 : decode cX8_fill 1 = .ok (.iconst 0, 1) := by decide +kernel
theorem dX8_fill_2 : decode cX8_fill 2 = .ok (.putfield 27, 3) := by decide +kernel
theorem dX8_fill_5 : decode cX8_fill 5 = .ok (.iconst 0, 1) := by decide +kernel
theorem dX8_fill_6 : decode cX8_fill 6 = .ok (.istore_n 2, 1) := by decide +kernel
theorem dX8_fill_7 : decode cX8_fill 7 = .ok (.iload_n 2, 1) := by decide +kernel
theorem dX8_fill_8 : decode cX8_fill 8 = .ok (.sipush 1000, 3) := by decide +kernel
theorem dX8_fill_11 : decode cX8_fill 11 = .ok (.if_icmp .ge 84, 3) := by decide +kernel
theorem dX8_fill_14 : decode cX8_fill 14 = .ok (.aload_n 0, 1) := by decide +kernel
theorem dX8_fill_15 : decode cX8_fill 15 = .ok (.getfield 27, 3) := by decide +kernel
theorem dX8_fill_18 : decode cX8_fill 18 = .ok (.bipush 60, 2) := by decide +kernel
theorem dX8_fill_20 : decode cX8_fill 20 = .ok (.if_icmp .ge 75, 3) := by decide +kernel
theorem dX8_fill_23 : decode cX8_fill 23 = .ok (.aload_n 1, 1) := by decide +kernel
theorem dX8_fill_24 : decode cX8_fill 24 = .ok (.getfield 31, 3) := by decide +kernel
theorem dX8_fill_27 : decode cX8_fill 27 = .ok (.iload_n 2, 1) := by decide +kernel
theorem dX8_fill_28 : decode cX8_fill 28 = .ok (.iaload, 1) := by decide +kernel
theorem dX8_fill_29 : decode cX8_fill 29 = .ok (.aload_n 1, 1) := by decide +kernel
theorem dX8_fill_30 : decode cX8_fill 30 = .ok (.getfield 34, 3) := by decide +kernel
theorem dX8_fill_33 : decode cX8_fill 33 = .ok (.iload_n 2, 1) := by decide +kernel
theorem dX8_fill_34 : decode cX8_fill 34 = .ok (.iaload, 1) := by decide +kernel
theorem dX8_fill_35 : decode cX8_fill 35 = .ok (.iadd, 1) := by decide +kernel
theorem dX8_fill_36 : decode cX8_fill 36 = .ok (.ifCond .le 53, 3) := by decide +kernel
theorem dX8_fill_39 : decode cX8_fill 39 = .ok (.aload_n 0, 1) := by decide +kernel
theorem dX8_fill_40 : decode cX8_fill 40 = .ok (.getfield 9, 3) := by decide +kernel
theorem dX8_fill_43 : decode cX8_fill 43 = .ok (.aload_n 0, 1) := by decide +kernel
theorem dX8_fill_44 : decode cX8_fill 44 = .ok (.getfield 27, 3) := by decide +kernel
theorem dX8_fill_47 : decode cX8_fill 47 = .ok (.iload_n 2, 1) := by decide +kernel
theorem dX8_fill_48 : decode cX8_fill 48 = .ok (.iastore, 1) := by decide +kernel
theorem dX8_fill_49 : decode cX8_fill 49 = .ok (.aload_n 0, 1) := by decide +kernel
theorem dX8_fill_50 : decode cX8_fill 50 = .ok (.getfield 15, 3) := by decide +kernel
theorem dX8_fill_53 : decode cX8_fill 53 = .ok (.aload_n 0, 1) := by decide +kernel
theorem dX8_fill_54 : decode cX8_fill 54 = .ok (.getfield 27, 3) := by decide +kernel
theorem dX8_fill_57 : decode cX8_fill 57 = .ok (.aload_n 1, 1) := by decide +kernel
theorem dX8_fill_58 : decode cX8_fill 58 = .ok (.getfield 31, 3) := by decide +kernel
theorem dX8_fill_61 : decode cX8_fill 61 = .ok (.iload_n 2, 1) := by decide +kernel
theorem dX8_fill_62 : decode cX8_fill 62 = .ok (.iaload, 1) := by decide +kernel
theorem dX8_fill_63 : decode cX8_fill 63 = .ok (.iastore, 1) := by decide +kernel
theorem dX8_fill_64 : decode cX8_fill 64 = .ok (.aload_n 0, 1) := by decide +kernel
theorem dX8_fill_65 : decode cX8_fill 65 = .ok (.getfield 18, 3) := by decide +kernel
theorem dX8_fill_68 : decode cX8_fill 68 = .ok (.aload_n 0, 1) := by decide +kernel
theorem dX8_fill_69 : decode cX8_fill 69 = .ok (.getfield 27, 3) := by decide +kernel
theorem dX8_fill_72 : decode cX8_fill 72 = .ok (.aload_n 1, 1) := by decide +kernel
theorem dX8_fill_73 : decode cX8_fill 73 = .ok (.getfield 34, 3) := by decide +kernel
theorem dX8_fill_76 : decode cX8_fill 76 = .ok (.iload_n 2, 1) := by decide +kernel
theorem dX8_fill_77 : decode cX8_fill 77 = .ok (.iaload, 1) := by decide +kernel
theorem dX8_fill_78 : decode cX8_fill 78 = .ok (.iastore, 1) := by decide +kernel
theorem dX8_fill_79 : decode cX8_fill 79 = .ok (.aload_n 0, 1) := by decide +kernel
theorem dX8_fill_80 : decode cX8_fill 80 = .ok (.dup, 1) := by decide +kernel
theorem dX8_fill_81 : decode cX8_fill 81 = .ok (.getfield 27, 3) := by decide +kernel
theorem dX8_fill_84 : decode cX8_fill 84 = .ok (.iconst 1, 1) := by decide +kernel
theorem dX8_fill_85 : decode cX8_fill 85 = .ok (.iadd, 1) := by decide +kernel
theorem dX8_fill_86 : decode cX8_fill 86 = .ok (.putfield 27, 3) := by decide +kernel
theorem dX8_fill_89 : decode cX8_fill 89 = .ok (.iinc 2 1, 3) := by decide +kernel
theorem dX8_fill_92 : decode cX8_fill 92 = .ok (.goto (-85), 3) := by decide +kernel
theorem dX8_fill_95 : decode cX8_fill 95 = .ok (.aload_n 0, 1) := by decide +kernel
theorem dX8_fill_96 : decode cX8_fill 96 = .ok (.invokevirtual 35, 3) := by decide +kernel
theorem dX8_fill_99 : decode cX8_fill 99 = .ok (.return_, 1) := by decide +kernel
theorem dX8_drawFrom_0 : decode cX8_drawFrom 0 = .ok (.aload_n 0, 1) := by decide +kernel
theorem dX8_drawFrom_1 : decode cX8_drawFrom 1 = .ok (.getfield 15, 3) := by decide +kernel
theorem dX8_drawFrom_4 : decode cX8_drawFrom 4 = .ok (.iconst 0, 1) := by decide +kernel
theorem dX8_drawFrom_5 : decode cX8_drawFrom 5 = .ok (.invokestatic 38, 3) := by decide +kernel
theorem dX8_drawFrom_8 : decode cX8_drawFrom 8 = .ok (.aload_n 0, 1) := by decide +kernel
theorem dX8_drawFrom_9 : decode cX8_drawFrom 9 = .ok (.getfield 18, 3) := by decide +kernel
theorem dX8_drawFrom_12 : decode cX8_drawFrom 12 = .ok (.iconst 0, 1) := by decide +kernel
theorem dX8_drawFrom_13 : decode cX8_drawFrom 13 = .ok (.invokestatic 38, 3) := by decide +kernel
theorem dX8_drawFrom_16 : decode cX8_drawFrom 16 = .ok (.aload_n 1, 1) := by decide +kernel
theorem dX8_drawFrom_17 : decode cX8_drawFrom 17 = .ok (.invokevirtual 44, 3) := by decide +kernel
theorem dX8_drawFrom_20 : decode cX8_drawFrom 20 = .ok (.istore 4, 2) := by decide +kernel
theorem dX8_drawFrom_22 : decode cX8_drawFrom 22 = .ok (.lload_n 2, 1) := by decide +kernel
theorem dX8_drawFrom_23 : decode cX8_drawFrom 23 = .ok (.lstore 5, 2) := by decide +kernel
theorem dX8_drawFrom_25 : decode cX8_drawFrom 25 = .ok (.iconst 0, 1) := by decide +kernel
theorem dX8_drawFrom_26 : decode cX8_drawFrom 26 = .ok (.istore 7, 2) := by decide +kernel
theorem dX8_drawFrom_28 : decode cX8_drawFrom 28 = .ok (.iload 7, 2) := by decide +kernel
theorem dX8_drawFrom_30 : decode cX8_drawFrom 30 = .ok (.iload 4, 2) := by decide +kernel
theorem dX8_drawFrom_32 : decode cX8_drawFrom 32 = .ok (.if_icmp .ge 85, 3) := by decide +kernel
theorem dX8_drawFrom_35 : decode cX8_drawFrom 35 = .ok (.lload 5, 2) := by decide +kernel
theorem dX8_drawFrom_37 : decode cX8_drawFrom 37 = .ok (.ldc2_w 48, 3) := by decide +kernel
theorem dX8_drawFrom_40 : decode cX8_drawFrom 40 = .ok (.lmul, 1) := by decide +kernel
theorem dX8_drawFrom_41 : decode cX8_drawFrom 41 = .ok (.ldc2_w 50, 3) := by decide +kernel
theorem dX8_drawFrom_44 : decode cX8_drawFrom 44 = .ok (.ladd, 1) := by decide +kernel
theorem dX8_drawFrom_45 : decode cX8_drawFrom 45 = .ok (.lstore 5, 2) := by decide +kernel
theorem dX8_drawFrom_47 : decode cX8_drawFrom 47 = .ok (.lload 5, 2) := by decide +kernel
theorem dX8_drawFrom_49 : decode cX8_drawFrom 49 = .ok (.bipush 33, 2) := by decide +kernel
theorem dX8_drawFrom_51 : decode cX8_drawFrom 51 = .ok (.lushr, 1) := by decide +kernel
theorem dX8_drawFrom_52 : decode cX8_drawFrom 52 = .ok (.iload 4, 2) := by decide +kernel
theorem dX8_drawFrom_54 : decode cX8_drawFrom 54 = .ok (.i2l, 1) := by decide +kernel
theorem dX8_drawFrom_55 : decode cX8_drawFrom 55 = .ok (.lrem, 1) := by decide +kernel
theorem dX8_drawFrom_56 : decode cX8_drawFrom 56 = .ok (.l2i, 1) := by decide +kernel
theorem dX8_drawFrom_57 : decode cX8_drawFrom 57 = .ok (.istore 8, 2) := by decide +kernel
theorem dX8_drawFrom_59 : decode cX8_drawFrom 59 = .ok (.aload_n 1, 1) := by decide +kernel
theorem dX8_drawFrom_60 : decode cX8_drawFrom 60 = .ok (.iload 8, 2) := by decide +kernel
theorem dX8_drawFrom_62 : decode cX8_drawFrom 62 = .ok (.invokevirtual 52, 3) := by decide +kernel
theorem dX8_drawFrom_65 : decode cX8_drawFrom 65 = .ok (.istore 9, 2) := by decide +kernel
theorem dX8_drawFrom_67 : decode cX8_drawFrom 67 = .ok (.iload 8, 2) := by decide +kernel
theorem dX8_drawFrom_69 : decode cX8_drawFrom 69 = .ok (.aload_n 1, 1) := by decide +kernel
theorem dX8_drawFrom_70 : decode cX8_drawFrom 70 = .ok (.iload 9, 2) := by decide +kernel
theorem dX8_drawFrom_72 : decode cX8_drawFrom 72 = .ok (.invokevirtual 56, 3) := by decide +kernel
theorem dX8_drawFrom_75 : decode cX8_drawFrom 75 = .ok (.isub, 1) := by decide +kernel
theorem dX8_drawFrom_76 : decode cX8_drawFrom 76 = .ok (.aload_n 1, 1) := by decide +kernel
theorem dX8_drawFrom_77 : decode cX8_drawFrom 77 = .ok (.getfield 15, 3) := by decide +kernel
theorem dX8_drawFrom_80 : decode cX8_drawFrom 80 = .ok (.iload 9, 2) := by decide +kernel
theorem dX8_drawFrom_82 : decode cX8_drawFrom 82 = .ok (.iaload, 1) := by decide +kernel
theorem dX8_drawFrom_83 : decode cX8_drawFrom 83 = .ok (.if_icmp .ge 17, 3) := by decide +kernel
theorem dX8_drawFrom_86 : decode cX8_drawFrom 86 = .ok (.aload_n 0, 1) := by decide +kernel
theorem dX8_drawFrom_87 : decode cX8_drawFrom 87 = .ok (.getfield 15, 3) := by decide +kernel
theorem dX8_drawFrom_90 : decode cX8_drawFrom 90 = .ok (.iload 9, 2) := by decide +kernel
theorem dX8_drawFrom_92 : decode cX8_drawFrom 92 = .ok (.dup2, 1) := by decide +kernel
theorem dX8_drawFrom_93 : decode cX8_drawFrom 93 = .ok (.iaload, 1) := by decide +kernel
theorem dX8_drawFrom_94 : decode cX8_drawFrom 94 = .ok (.iconst 1, 1) := by decide +kernel
theorem dX8_drawFrom_95 : decode cX8_drawFrom 95 = .ok (.iadd, 1) := by decide +kernel
theorem dX8_drawFrom_96 : decode cX8_drawFrom 96 = .ok (.iastore, 1) := by decide +kernel
theorem dX8_drawFrom_97 : decode cX8_drawFrom 97 = .ok (.goto 14, 3) := by decide +kernel
theorem dX8_drawFrom_100 : decode cX8_drawFrom 100 = .ok (.aload_n 0, 1) := by decide +kernel
theorem dX8_drawFrom_101 : decode cX8_drawFrom 101 = .ok (.getfield 18, 3) := by decide +kernel
theorem dX8_drawFrom_104 : decode cX8_drawFrom 104 = .ok (.iload 9, 2) := by decide +kernel
theorem dX8_drawFrom_106 : decode cX8_drawFrom 106 = .ok (.dup2, 1) := by decide +kernel
theorem dX8_drawFrom_107 : decode cX8_drawFrom 107 = .ok (.iaload, 1) := by decide +kernel
theorem dX8_drawFrom_108 : decode cX8_drawFrom 108 = .ok (.iconst 1, 1) := by decide +kernel
theorem dX8_drawFrom_109 : decode cX8_drawFrom 109 = .ok (.iadd, 1) := by decide +kernel
theorem dX8_drawFrom_110 : decode cX8_drawFrom 110 = .ok (.iastore, 1) := by decide +kernel
theorem dX8_drawFrom_111 : decode cX8_drawFrom 111 = .ok (.iinc 7 1, 3) := by decide +kernel
theorem dX8_drawFrom_114 : decode cX8_drawFrom 114 = .ok (.goto (-86), 3) := by decide +kernel
theorem dX8_drawFrom_117 : decode cX8_drawFrom 117 = .ok (.aload_n 0, 1) := by decide +kernel
theorem dX8_drawFrom_118 : decode cX8_drawFrom 118 = .ok (.aload_n 1, 1) := by decide +kernel
theorem dX8_drawFrom_119 : decode cX8_drawFrom 119 = .ok (.invokevirtual 59, 3) := by decide +kernel
theorem dX8_drawFrom_122 : decode cX8_drawFrom 122 = .ok (.aload_n 0, 1) := by decide +kernel
theorem dX8_drawFrom_123 : decode cX8_drawFrom 123 = .ok (.invokevirtual 35, 3) := by decide +kernel
theorem dX8_drawFrom_126 : decode cX8_drawFrom 126 = .ok (.return_, 1) := by decide +kernel
theorem dX8_closeUp_0 : decode cX8_closeUp 0 = .ok (.aload_n 0, 1) := by decide +kernel
theorem dX8_closeUp_1 : decode cX8_closeUp 1 = .ok (.iconst 0, 1) := by decide +kernel
theorem dX8_closeUp_2 : decode cX8_closeUp 2 = .ok (.putfield 27, 3) := by decide +kernel
theorem dX8_closeUp_5 : decode cX8_closeUp 5 = .ok (.iconst 0, 1) := by decide +kernel
theorem dX8_closeUp_6 : decode cX8_closeUp 6 = .ok (.istore_n 2, 1) := by decide +kernel
theorem dX8_closeUp_7 : decode cX8_closeUp 7 = .ok (.iload_n 2, 1) := by decide +kernel
theorem dX8_closeUp_8 : decode cX8_closeUp 8 = .ok (.aload_n 1, 1) := by decide +kernel
theorem dX8_closeUp_9 : decode cX8_closeUp 9 = .ok (.getfield 27, 3) := by decide +kernel
theorem dX8_closeUp_12 : decode cX8_closeUp 12 = .ok (.if_icmp .ge 80, 3) := by decide +kernel
theorem dX8_closeUp_15 : decode cX8_closeUp 15 = .ok (.aload_n 0, 1) := by decide +kernel
theorem dX8_closeUp_16 : decode cX8_closeUp 16 = .ok (.getfield 15, 3) := by decide +kernel
theorem dX8_closeUp_19 : decode cX8_closeUp 19 = .ok (.iload_n 2, 1) := by decide +kernel
theorem dX8_closeUp_20 : decode cX8_closeUp 20 = .ok (.iaload, 1) := by decide +kernel
theorem dX8_closeUp_21 : decode cX8_closeUp 21 = .ok (.aload_n 0, 1) := by decide +kernel
theorem dX8_closeUp_22 : decode cX8_closeUp 22 = .ok (.getfield 18, 3) := by decide +kernel
theorem dX8_closeUp_25 : decode cX8_closeUp 25 = .ok (.iload_n 2, 1) := by decide +kernel
theorem dX8_closeUp_26 : decode cX8_closeUp 26 = .ok (.iaload, 1) := by decide +kernel
theorem dX8_closeUp_27 : decode cX8_closeUp 27 = .ok (.iadd, 1) := by decide +kernel
theorem dX8_closeUp_28 : decode cX8_closeUp 28 = .ok (.ifCond .le 58, 3) := by decide +kernel
theorem dX8_closeUp_31 : decode cX8_closeUp 31 = .ok (.aload_n 0, 1) := by decide +kernel
theorem dX8_closeUp_32 : decode cX8_closeUp 32 = .ok (.getfield 9, 3) := by decide +kernel
theorem dX8_closeUp_35 : decode cX8_closeUp 35 = .ok (.aload_n 0, 1) := by decide +kernel
theorem dX8_closeUp_36 : decode cX8_closeUp 36 = .ok (.getfield 27, 3) := by decide +kernel
theorem dX8_closeUp_39 : decode cX8_closeUp 39 = .ok (.aload_n 1, 1) := by decide +kernel
theorem dX8_closeUp_40 : decode cX8_closeUp 40 = .ok (.getfield 9, 3) := by decide +kernel
theorem dX8_closeUp_43 : decode cX8_closeUp 43 = .ok (.iload_n 2, 1) := by decide +kernel
theorem dX8_closeUp_44 : decode cX8_closeUp 44 = .ok (.iaload, 1) := by decide +kernel
theorem dX8_closeUp_45 : decode cX8_closeUp 45 = .ok (.iastore, 1) := by decide +kernel
theorem dX8_closeUp_46 : decode cX8_closeUp 46 = .ok (.aload_n 0, 1) := by decide +kernel
theorem dX8_closeUp_47 : decode cX8_closeUp 47 = .ok (.getfield 15, 3) := by decide +kernel
theorem dX8_closeUp_50 : decode cX8_closeUp 50 = .ok (.aload_n 0, 1) := by decide +kernel
theorem dX8_closeUp_51 : decode cX8_closeUp 51 = .ok (.getfield 27, 3) := by decide +kernel
theorem dX8_closeUp_54 : decode cX8_closeUp 54 = .ok (.aload_n 0, 1) := by decide +kernel
theorem dX8_closeUp_55 : decode cX8_closeUp 55 = .ok (.getfield 15, 3) := by decide +kernel
theorem dX8_closeUp_58 : decode cX8_closeUp 58 = .ok (.iload_n 2, 1) := by decide +kernel
theorem dX8_closeUp_59 : decode cX8_closeUp 59 = .ok (.iaload, 1) := by decide +kernel
theorem dX8_closeUp_60 : decode cX8_closeUp 60 = .ok (.iastore, 1) := by decide +kernel
theorem dX8_closeUp_61 : decode cX8_closeUp 61 = .ok (.aload_n 0, 1) := by decide +kernel
theorem dX8_closeUp_62 : decode cX8_closeUp 62 = .ok (.getfield 18, 3) := by decide +kernel
theorem dX8_closeUp_65 : decode cX8_closeUp 65 = .ok (.aload_n 0, 1) := by decide +kernel
theorem dX8_closeUp_66 : decode cX8_closeUp 66 = .ok (.getfield 27, 3) := by decide +kernel
theorem dX8_closeUp_69 : decode cX8_closeUp 69 = .ok (.aload_n 0, 1) := by decide +kernel
theorem dX8_closeUp_70 : decode cX8_closeUp 70 = .ok (.getfield 18, 3) := by decide +kernel
theorem dX8_closeUp_73 : decode cX8_closeUp 73 = .ok (.iload_n 2, 1) := by decide +kernel
theorem dX8_closeUp_74 : decode cX8_closeUp 74 = .ok (.iaload, 1) := by decide +kernel
theorem dX8_closeUp_75 : decode cX8_closeUp 75 = .ok (.iastore, 1) := by decide +kernel
theorem dX8_closeUp_76 : decode cX8_closeUp 76 = .ok (.aload_n 0, 1) := by decide +kernel
theorem dX8_closeUp_77 : decode cX8_closeUp 77 = .ok (.dup, 1) := by decide +kernel
theorem dX8_closeUp_78 : decode cX8_closeUp 78 = .ok (.getfield 27, 3) := by decide +kernel
theorem dX8_closeUp_81 : decode cX8_closeUp 81 = .ok (.iconst 1, 1) := by decide +kernel
theorem dX8_closeUp_82 : decode cX8_closeUp 82 = .ok (.iadd, 1) := by decide +kernel
theorem dX8_closeUp_83 : decode cX8_closeUp 83 = .ok (.putfield 27, 3) := by decide +kernel
theorem dX8_closeUp_86 : decode cX8_closeUp 86 = .ok (.iinc 2 1, 3) := by decide +kernel
theorem dX8_closeUp_89 : decode cX8_closeUp 89 = .ok (.goto (-82), 3) := by decide +kernel
theorem dX8_closeUp_92 : decode cX8_closeUp 92 = .ok (.return_, 1) := by decide +kernel
theorem dX8_sumUp_0 : decode cX8_sumUp 0 = .ok (.iconst 0, 1) := by decide +kernel
theorem dX8_sumUp_1 : decode cX8_sumUp 1 = .ok (.istore_n 1, 1) := by decide +kernel
theorem dX8_sumUp_2 : decode cX8_sumUp 2 = .ok (.iload_n 1, 1) := by decide +kernel
theorem dX8_sumUp_3 : decode cX8_sumUp 3 = .ok (.aload_n 0, 1) := by decide +kernel
theorem dX8_sumUp_4 : decode cX8_sumUp 4 = .ok (.getfield 27, 3) := by decide +kernel
theorem dX8_sumUp_7 : decode cX8_sumUp 7 = .ok (.if_icmp .ge 51, 3) := by decide +kernel
theorem dX8_sumUp_10 : decode cX8_sumUp 10 = .ok (.aload_n 0, 1) := by decide +kernel
theorem dX8_sumUp_11 : decode cX8_sumUp 11 = .ok (.getfield 21, 3) := by decide +kernel
theorem dX8_sumUp_14 : decode cX8_sumUp 14 = .ok (.iload_n 1, 1) := by decide +kernel
theorem dX8_sumUp_15 : decode cX8_sumUp 15 = .ok (.iconst 1, 1) := by decide +kernel
theorem dX8_sumUp_16 : decode cX8_sumUp 16 = .ok (.iadd, 1) := by decide +kernel
theorem dX8_sumUp_17 : decode cX8_sumUp 17 = .ok (.aload_n 0, 1) := by decide +kernel
theorem dX8_sumUp_18 : decode cX8_sumUp 18 = .ok (.getfield 21, 3) := by decide +kernel
theorem dX8_sumUp_21 : decode cX8_sumUp 21 = .ok (.iload_n 1, 1) := by decide +kernel
theorem dX8_sumUp_22 : decode cX8_sumUp 22 = .ok (.iaload, 1) := by decide +kernel
theorem dX8_sumUp_23 : decode cX8_sumUp 23 = .ok (.aload_n 0, 1) := by decide +kernel
theorem dX8_sumUp_24 : decode cX8_sumUp 24 = .ok (.getfield 15, 3) := by decide +kernel
theorem dX8_sumUp_27 : decode cX8_sumUp 27 = .ok (.iload_n 1, 1) := by decide +kernel
theorem dX8_sumUp_28 : decode cX8_sumUp 28 = .ok (.iaload, 1) := by decide +kernel
theorem dX8_sumUp_29 : decode cX8_sumUp 29 = .ok (.iadd, 1) := by decide +kernel
theorem dX8_sumUp_30 : decode cX8_sumUp 30 = .ok (.iastore, 1) := by decide +kernel
theorem dX8_sumUp_31 : decode cX8_sumUp 31 = .ok (.aload_n 0, 1) := by decide +kernel
theorem dX8_sumUp_32 : decode cX8_sumUp 32 = .ok (.getfield 24, 3) := by decide +kernel
theorem dX8_sumUp_35 : decode cX8_sumUp 35 = .ok (.iload_n 1, 1) := by decide +kernel
theorem dX8_sumUp_36 : decode cX8_sumUp 36 = .ok (.iconst 1, 1) := by decide +kernel
theorem dX8_sumUp_37 : decode cX8_sumUp 37 = .ok (.iadd, 1) := by decide +kernel
theorem dX8_sumUp_38 : decode cX8_sumUp 38 = .ok (.aload_n 0, 1) := by decide +kernel
theorem dX8_sumUp_39 : decode cX8_sumUp 39 = .ok (.getfield 24, 3) := by decide +kernel
theorem dX8_sumUp_42 : decode cX8_sumUp 42 = .ok (.iload_n 1, 1) := by decide +kernel
theorem dX8_sumUp_43 : decode cX8_sumUp 43 = .ok (.iaload, 1) := by decide +kernel
theorem dX8_sumUp_44 : decode cX8_sumUp 44 = .ok (.aload_n 0, 1) := by decide +kernel
theorem dX8_sumUp_45 : decode cX8_sumUp 45 = .ok (.getfield 18, 3) := by decide +kernel
theorem dX8_sumUp_48 : decode cX8_sumUp 48 = .ok (.iload_n 1, 1) := by decide +kernel
theorem dX8_sumUp_49 : decode cX8_sumUp 49 = .ok (.iaload, 1) := by decide +kernel
theorem dX8_sumUp_50 : decode cX8_sumUp 50 = .ok (.iadd, 1) := by decide +kernel
theorem dX8_sumUp_51 : decode cX8_sumUp 51 = .ok (.iastore, 1) := by decide +kernel
theorem dX8_sumUp_52 : decode cX8_sumUp 52 = .ok (.iinc 1 1, 3) := by decide +kernel
theorem dX8_sumUp_55 : decode cX8_sumUp 55 = .ok (.goto (-53), 3) := by decide +kernel
theorem dX8_sumUp_58 : decode cX8_sumUp 58 = .ok (.return_, 1) := by decide +kernel
theorem dX8_goods_0 : decode cX8_goods 0 = .ok (.aload_n 0, 1) := by decide +kernel
theorem dX8_goods_1 : decode cX8_goods 1 = .ok (.getfield 21, 3) := by decide +kernel
theorem dX8_goods_4 : decode cX8_goods 4 = .ok (.aload_n 0, 1) := by decide +kernel
theorem dX8_goods_5 : decode cX8_goods 5 = .ok (.getfield 27, 3) := by decide +kernel
theorem dX8_goods_8 : decode cX8_goods 8 = .ok (.iaload, 1) := by decide +kernel
theorem dX8_goods_9 : decode cX8_goods 9 = .ok (.ireturn, 1) := by decide +kernel
theorem dX8_bads_0 : decode cX8_bads 0 = .ok (.aload_n 0, 1) := by decide +kernel
theorem dX8_bads_1 : decode cX8_bads 1 = .ok (.getfield 24, 3) := by decide +kernel
theorem dX8_bads_4 : decode cX8_bads 4 = .ok (.aload_n 0, 1) := by decide +kernel
theorem dX8_bads_5 : decode cX8_bads 5 = .ok (.getfield 27, 3) := by decide +kernel
theorem dX8_bads_8 : decode cX8_bads 8 = .ok (.iaload, 1) := by decide +kernel
theorem dX8_bads_9 : decode cX8_bads 9 = .ok (.ireturn, 1) := by decide +kernel
theorem dX8_cases_0 : decode cX8_cases 0 = .ok (.aload_n 0, 1) := by decide +kernel
theorem dX8_cases_1 : decode cX8_cases 1 = .ok (.aload_n 0, 1) := by decide +kernel
theorem dX8_cases_2 : decode cX8_cases 2 = .ok (.getfield 27, 3) := by decide +kernel
theorem dX8_cases_5 : decode cX8_cases 5 = .ok (.invokevirtual 56, 3) := by decide +kernel
theorem dX8_cases_8 : decode cX8_cases 8 = .ok (.ireturn, 1) := by decide +kernel
theorem dX8_casesAhead_0 : decode cX8_casesAhead 0 = .ok (.aload_n 0, 1) := by decide +kernel
theorem dX8_casesAhead_1 : decode cX8_casesAhead 1 = .ok (.getfield 21, 3) := by decide +kernel
theorem dX8_casesAhead_4 : decode cX8_casesAhead 4 = .ok (.iload_n 1, 1) := by decide +kernel
theorem dX8_casesAhead_5 : decode cX8_casesAhead 5 = .ok (.iaload, 1) := by decide +kernel
theorem dX8_casesAhead_6 : decode cX8_casesAhead 6 = .ok (.aload_n 0, 1) := by decide +kernel
theorem dX8_casesAhead_7 : decode cX8_casesAhead 7 = .ok (.getfield 24, 3) := by decide +kernel
theorem dX8_casesAhead_10 : decode cX8_casesAhead 10 = .ok (.iload_n 1, 1) := by decide +kernel
theorem dX8_casesAhead_11 : decode cX8_casesAhead 11 = .ok (.iaload, 1) := by decide +kernel
theorem dX8_casesAhead_12 : decode cX8_casesAhead 12 = .ok (.iadd, 1) := by decide +kernel
theorem dX8_casesAhead_13 : decode cX8_casesAhead 13 = .ok (.ireturn, 1) := by decide +kernel
theorem dX8_hasBoth_0 : decode cX8_hasBoth 0 = .ok (.aload_n 0, 1) := by decide +kernel
theorem dX8_hasBoth_1 : decode cX8_hasBoth 1 = .ok (.invokevirtual 63, 3) := by decide +kernel
theorem dX8_hasBoth_4 : decode cX8_hasBoth 4 = .ok (.ifCond .le 14, 3) := by decide +kernel
theorem dX8_hasBoth_7 : decode cX8_hasBoth 7 = .ok (.aload_n 0, 1) := by decide +kernel
theorem dX8_hasBoth_8 : decode cX8_hasBoth 8 = .ok (.invokevirtual 66, 3) := by decide +kernel
theorem dX8_hasBoth_11 : decode cX8_hasBoth 11 = .ok (.ifCond .le 7, 3) := by decide +kernel
theorem dX8_hasBoth_14 : decode cX8_hasBoth 14 = .ok (.iconst 1, 1) := by decide +kernel
theorem dX8_hasBoth_15 : decode cX8_hasBoth 15 = .ok (.goto 4, 3) := by decide +kernel
theorem dX8_hasBoth_18 : decode cX8_hasBoth 18 = .ok (.iconst 0, 1) := by decide +kernel
theorem dX8_hasBoth_19 : decode cX8_hasBoth 19 = .ok (.ireturn, 1) := by decide +kernel
theorem dX8_greatest_0 : decode cX8_greatest 0 = .ok (.aload_n 0, 1) := by decide +kernel
theorem dX8_greatest_1 : decode cX8_greatest 1 = .ok (.getfield 27, 3) := by decide +kernel
theorem dX8_greatest_4 : decode cX8_greatest 4 = .ok (.ifCond .ne 7, 3) := by decide +kernel
theorem dX8_greatest_7 : decode cX8_greatest 7 = .ok (.iconst (-1), 1) := by decide +kernel
theorem dX8_greatest_8 : decode cX8_greatest 8 = .ok (.goto 14, 3) := by decide +kernel
theorem dX8_greatest_11 : decode cX8_greatest 11 = .ok (.aload_n 0, 1) := by decide +kernel
theorem dX8_greatest_12 : decode cX8_greatest 12 = .ok (.getfield 9, 3) := by decide +kernel
theorem dX8_greatest_15 : decode cX8_greatest 15 = .ok (.aload_n 0, 1) := by decide +kernel
theorem dX8_greatest_16 : decode cX8_greatest 16 = .ok (.getfield 27, 3) := by decide +kernel
theorem dX8_greatest_19 : decode cX8_greatest 19 = .ok (.iconst 1, 1) := by decide +kernel
theorem dX8_greatest_20 : decode cX8_greatest 20 = .ok (.isub, 1) := by decide +kernel
theorem dX8_greatest_21 : decode cX8_greatest 21 = .ok (.iaload, 1) := by decide +kernel
theorem dX8_greatest_22 : decode cX8_greatest 22 = .ok (.ireturn, 1) := by decide +kernel
theorem dX8_below_0 : decode cX8_below 0 = .ok (.iconst 0, 1) := by decide +kernel
theorem dX8_below_1 : decode cX8_below 1 = .ok (.istore_n 2, 1) := by decide +kernel
theorem dX8_below_2 : decode cX8_below 2 = .ok (.iload_n 2, 1) := by decide +kernel
theorem dX8_below_3 : decode cX8_below 3 = .ok (.aload_n 0, 1) := by decide +kernel
theorem dX8_below_4 : decode cX8_below 4 = .ok (.getfield 27, 3) := by decide +kernel
theorem dX8_below_7 : decode cX8_below 7 = .ok (.if_icmp .ge 19, 3) := by decide +kernel
theorem dX8_below_10 : decode cX8_below 10 = .ok (.aload_n 0, 1) := by decide +kernel
theorem dX8_below_11 : decode cX8_below 11 = .ok (.getfield 9, 3) := by decide +kernel
theorem dX8_below_14 : decode cX8_below 14 = .ok (.iload_n 2, 1) := by decide +kernel
theorem dX8_below_15 : decode cX8_below 15 = .ok (.iaload, 1) := by decide +kernel
theorem dX8_below_16 : decode cX8_below 16 = .ok (.iload_n 1, 1) := by decide +kernel
theorem dX8_below_17 : decode cX8_below 17 = .ok (.if_icmp .ge 9, 3) := by decide +kernel
theorem dX8_below_20 : decode cX8_below 20 = .ok (.iinc 2 1, 3) := by decide +kernel
theorem dX8_below_23 : decode cX8_below 23 = .ok (.goto (-21), 3) := by decide +kernel
theorem dX8_below_26 : decode cX8_below 26 = .ok (.iload_n 2, 1) := by decide +kernel
theorem dX8_below_27 : decode cX8_below 27 = .ok (.ireturn, 1) := by decide +kernel
theorem dX8_holder_0 : decode cX8_holder 0 = .ok (.iconst 0, 1) := by decide +kernel
theorem dX8_holder_1 : decode cX8_holder 1 = .ok (.istore_n 2, 1) := by decide +kernel
theorem dX8_holder_2 : decode cX8_holder 2 = .ok (.aload_n 0, 1) := by decide +kernel
theorem dX8_holder_3 : decode cX8_holder 3 = .ok (.getfield 27, 3) := by decide +kernel
theorem dX8_holder_6 : decode cX8_holder 6 = .ok (.iconst 1, 1) := by decide +kernel
theorem dX8_holder_7 : decode cX8_holder 7 = .ok (.isub, 1) := by decide +kernel
theorem dX8_holder_8 : decode cX8_holder 8 = .ok (.iconst 0, 1) := by decide +kernel
theorem dX8_holder_9 : decode cX8_holder 9 = .ok (.invokestatic 69, 3) := by decide +kernel
theorem dX8_holder_12 : decode cX8_holder 12 = .ok (.istore_n 3, 1) := by decide +kernel
theorem dX8_holder_13 : decode cX8_holder 13 = .ok (.iconst 0, 1) := by decide +kernel
theorem dX8_holder_14 : decode cX8_holder 14 = .ok (.istore 4, 2) := by decide +kernel
theorem dX8_holder_16 : decode cX8_holder 16 = .ok (.iload 4, 2) := by decide +kernel
theorem dX8_holder_18 : decode cX8_holder 18 = .ok (.bipush 60, 2) := by decide +kernel
theorem dX8_holder_20 : decode cX8_holder 20 = .ok (.if_icmp .ge 44, 3) := by decide +kernel
theorem dX8_holder_23 : decode cX8_holder 23 = .ok (.iload_n 2, 1) := by decide +kernel
theorem dX8_holder_24 : decode cX8_holder 24 = .ok (.iload_n 3, 1) := by decide +kernel
theorem dX8_holder_25 : decode cX8_holder 25 = .ok (.if_icmp .ge 39, 3) := by decide +kernel
theorem dX8_holder_28 : decode cX8_holder 28 = .ok (.iload_n 2, 1) := by decide +kernel
theorem dX8_holder_29 : decode cX8_holder 29 = .ok (.iload_n 3, 1) := by decide +kernel
theorem dX8_holder_30 : decode cX8_holder 30 = .ok (.iadd, 1) := by decide +kernel
theorem dX8_holder_31 : decode cX8_holder 31 = .ok (.iconst 2, 1) := by decide +kernel
theorem dX8_holder_32 : decode cX8_holder 32 = .ok (.idiv, 1) := by decide +kernel
theorem dX8_holder_33 : decode cX8_holder 33 = .ok (.istore 5, 2) := by decide +kernel
theorem dX8_holder_35 : decode cX8_holder 35 = .ok (.aload_n 0, 1) := by decide +kernel
theorem dX8_holder_36 : decode cX8_holder 36 = .ok (.iload 5, 2) := by decide +kernel
theorem dX8_holder_38 : decode cX8_holder 38 = .ok (.iconst 1, 1) := by decide +kernel
theorem dX8_holder_39 : decode cX8_holder 39 = .ok (.iadd, 1) := by decide +kernel
theorem dX8_holder_40 : decode cX8_holder 40 = .ok (.invokevirtual 56, 3) := by decide +kernel
theorem dX8_holder_43 : decode cX8_holder 43 = .ok (.iload_n 1, 1) := by decide +kernel
theorem dX8_holder_44 : decode cX8_holder 44 = .ok (.if_icmp .le 9, 3) := by decide +kernel
theorem dX8_holder_47 : decode cX8_holder 47 = .ok (.iload 5, 2) := by decide +kernel
theorem dX8_holder_49 : decode cX8_holder 49 = .ok (.istore_n 3, 1) := by decide +kernel
theorem dX8_holder_50 : decode cX8_holder 50 = .ok (.goto 8, 3) := by decide +kernel
theorem dX8_holder_53 : decode cX8_holder 53 = .ok (.iload 5, 2) := by decide +kernel
theorem dX8_holder_55 : decode cX8_holder 55 = .ok (.iconst 1, 1) := by decide +kernel
theorem dX8_holder_56 : decode cX8_holder 56 = .ok (.iadd, 1) := by decide +kernel
theorem dX8_holder_57 : decode cX8_holder 57 = .ok (.istore_n 2, 1) := by decide +kernel
theorem dX8_holder_58 : decode cX8_holder 58 = .ok (.iinc 4 1, 3) := by decide +kernel
theorem dX8_holder_61 : decode cX8_holder 61 = .ok (.goto (-45), 3) := by decide +kernel
theorem dX8_holder_64 : decode cX8_holder 64 = .ok (.iload_n 2, 1) := by decide +kernel
theorem dX8_holder_65 : decode cX8_holder 65 = .ok (.ireturn, 1) := by decide +kernel
theorem dX8_scoresTogether_0 : decode cX8_scoresTogether 0 = .ok (.lconst 0, 1) := by decide +kernel
theorem dX8_scoresTogether_1 : decode cX8_scoresTogether 1 = .ok (.lstore_n 3, 1) := by decide +kernel
theorem dX8_scoresTogether_2 : decode cX8_scoresTogether 2 = .ok (.iconst 0, 1) := by decide +kernel
theorem dX8_scoresTogether_3 : decode cX8_scoresTogether 3 = .ok (.istore 5, 2) := by decide +kernel
theorem dX8_scoresTogether_5 : decode cX8_scoresTogether 5 = .ok (.iload 5, 2) := by decide +kernel
theorem dX8_scoresTogether_7 : decode cX8_scoresTogether 7 = .ok (.aload_n 0, 1) := by decide +kernel
theorem dX8_scoresTogether_8 : decode cX8_scoresTogether 8 = .ok (.getfield 27, 3) := by decide +kernel
theorem dX8_scoresTogether_11 : decode cX8_scoresTogether 11 = .ok (.if_icmp .ge 41, 3) := by decide +kernel
theorem dX8_scoresTogether_14 : decode cX8_scoresTogether 14 = .ok (.lload_n 3, 1) := by decide +kernel
theorem dX8_scoresTogether_15 : decode cX8_scoresTogether 15 = .ok (.aload_n 0, 1) := by decide +kernel
theorem dX8_scoresTogether_16 : decode cX8_scoresTogether 16 = .ok (.getfield 9, 3) := by decide +kernel
theorem dX8_scoresTogether_19 : decode cX8_scoresTogether 19 = .ok (.iload 5, 2) := by decide +kernel
theorem dX8_scoresTogether_21 : decode cX8_scoresTogether 21 = .ok (.iaload, 1) := by decide +kernel
theorem dX8_scoresTogether_22 : decode cX8_scoresTogether 22 = .ok (.i2l, 1) := by decide +kernel
theorem dX8_scoresTogether_23 : decode cX8_scoresTogether 23 = .ok (.iload_n 1, 1) := by decide +kernel
theorem dX8_scoresTogether_24 : decode cX8_scoresTogether 24 = .ok (.aload_n 0, 1) := by decide +kernel
theorem dX8_scoresTogether_25 : decode cX8_scoresTogether 25 = .ok (.getfield 15, 3) := by decide +kernel
theorem dX8_scoresTogether_28 : decode cX8_scoresTogether 28 = .ok (.iload 5, 2) := by decide +kernel
theorem dX8_scoresTogether_30 : decode cX8_scoresTogether 30 = .ok (.iaload, 1) := by decide +kernel
theorem dX8_scoresTogether_31 : decode cX8_scoresTogether 31 = .ok (.imul, 1) := by decide +kernel
theorem dX8_scoresTogether_32 : decode cX8_scoresTogether 32 = .ok (.iload_n 2, 1) := by decide +kernel
theorem dX8_scoresTogether_33 : decode cX8_scoresTogether 33 = .ok (.aload_n 0, 1) := by decide +kernel
theorem dX8_scoresTogether_34 : decode cX8_scoresTogether 34 = .ok (.getfield 18, 3) := by decide +kernel
theorem dX8_scoresTogether_37 : decode cX8_scoresTogether 37 = .ok (.iload 5, 2) := by decide +kernel
theorem dX8_scoresTogether_39 : decode cX8_scoresTogether 39 = .ok (.iaload, 1) := by decide +kernel
theorem dX8_scoresTogether_40 : decode cX8_scoresTogether 40 = .ok (.imul, 1) := by decide +kernel
theorem dX8_scoresTogether_41 : decode cX8_scoresTogether 41 = .ok (.iadd, 1) := by decide +kernel
theorem dX8_scoresTogether_42 : decode cX8_scoresTogether 42 = .ok (.i2l, 1) := by decide +kernel
theorem dX8_scoresTogether_43 : decode cX8_scoresTogether 43 = .ok (.lmul, 1) := by decide +kernel
theorem dX8_scoresTogether_44 : decode cX8_scoresTogether 44 = .ok (.ladd, 1) := by decide +kernel
theorem dX8_scoresTogether_45 : decode cX8_scoresTogether 45 = .ok (.lstore_n 3, 1) := by decide +kernel
theorem dX8_scoresTogether_46 : decode cX8_scoresTogether 46 = .ok (.iinc 5 1, 3) := by decide +kernel
theorem dX8_scoresTogether_49 : decode cX8_scoresTogether 49 = .ok (.goto (-44), 3) := by decide +kernel
theorem dX8_scoresTogether_52 : decode cX8_scoresTogether 52 = .ok (.lload_n 3, 1) := by decide +kernel
theorem dX8_scoresTogether_53 : decode cX8_scoresTogether 53 = .ok (.lreturn, 1) := by decide +kernel
theorem dX8_halvesInOrder_0 : decode cX8_halvesInOrder 0 = .ok (.lconst 0, 1) := by decide +kernel
theorem dX8_halvesInOrder_1 : decode cX8_halvesInOrder 1 = .ok (.lstore_n 1, 1) := by decide +kernel
theorem dX8_halvesInOrder_2 : decode cX8_halvesInOrder 2 = .ok (.iconst 0, 1) := by decide +kernel
theorem dX8_halvesInOrder_3 : decode cX8_halvesInOrder 3 = .ok (.istore_n 3, 1) := by decide +kernel
theorem dX8_halvesInOrder_4 : decode cX8_halvesInOrder 4 = .ok (.iload_n 3, 1) := by decide +kernel
theorem dX8_halvesInOrder_5 : decode cX8_halvesInOrder 5 = .ok (.aload_n 0, 1) := by decide +kernel
theorem dX8_halvesInOrder_6 : decode cX8_halvesInOrder 6 = .ok (.getfield 27, 3) := by decide +kernel
theorem dX8_halvesInOrder_9 : decode cX8_halvesInOrder 9 = .ok (.if_icmp .ge 36, 3) := by decide +kernel
theorem dX8_halvesInOrder_12 : decode cX8_halvesInOrder 12 = .ok (.lload_n 1, 1) := by decide +kernel
theorem dX8_halvesInOrder_13 : decode cX8_halvesInOrder 13 = .ok (.aload_n 0, 1) := by decide +kernel
theorem dX8_halvesInOrder_14 : decode cX8_halvesInOrder 14 = .ok (.getfield 15, 3) := by decide +kernel
theorem dX8_halvesInOrder_17 : decode cX8_halvesInOrder 17 = .ok (.iload_n 3, 1) := by decide +kernel
theorem dX8_halvesInOrder_18 : decode cX8_halvesInOrder 18 = .ok (.iaload, 1) := by decide +kernel
theorem dX8_halvesInOrder_19 : decode cX8_halvesInOrder 19 = .ok (.i2l, 1) := by decide +kernel
theorem dX8_halvesInOrder_20 : decode cX8_halvesInOrder 20 = .ok (.iconst 2, 1) := by decide +kernel
theorem dX8_halvesInOrder_21 : decode cX8_halvesInOrder 21 = .ok (.aload_n 0, 1) := by decide +kernel
theorem dX8_halvesInOrder_22 : decode cX8_halvesInOrder 22 = .ok (.getfield 24, 3) := by decide +kernel
theorem dX8_halvesInOrder_25 : decode cX8_halvesInOrder 25 = .ok (.iload_n 3, 1) := by decide +kernel
theorem dX8_halvesInOrder_26 : decode cX8_halvesInOrder 26 = .ok (.iaload, 1) := by decide +kernel
theorem dX8_halvesInOrder_27 : decode cX8_halvesInOrder 27 = .ok (.imul, 1) := by decide +kernel
theorem dX8_halvesInOrder_28 : decode cX8_halvesInOrder 28 = .ok (.aload_n 0, 1) := by decide +kernel
theorem dX8_halvesInOrder_29 : decode cX8_halvesInOrder 29 = .ok (.getfield 18, 3) := by decide +kernel
theorem dX8_halvesInOrder_32 : decode cX8_halvesInOrder 32 = .ok (.iload_n 3, 1) := by decide +kernel
theorem dX8_halvesInOrder_33 : decode cX8_halvesInOrder 33 = .ok (.iaload, 1) := by decide +kernel
theorem dX8_halvesInOrder_34 : decode cX8_halvesInOrder 34 = .ok (.iadd, 1) := by decide +kernel
theorem dX8_halvesInOrder_35 : decode cX8_halvesInOrder 35 = .ok (.i2l, 1) := by decide +kernel
theorem dX8_halvesInOrder_36 : decode cX8_halvesInOrder 36 = .ok (.lmul, 1) := by decide +kernel
theorem dX8_halvesInOrder_37 : decode cX8_halvesInOrder 37 = .ok (.ladd, 1) := by decide +kernel
theorem dX8_halvesInOrder_38 : decode cX8_halvesInOrder 38 = .ok (.lstore_n 1, 1) := by decide +kernel
theorem dX8_halvesInOrder_39 : decode cX8_halvesInOrder 39 = .ok (.iinc 3 1, 3) := by decide +kernel
theorem dX8_halvesInOrder_42 : decode cX8_halvesInOrder 42 = .ok (.goto (-38), 3) := by decide +kernel
theorem dX8_halvesInOrder_45 : decode cX8_halvesInOrder 45 = .ok (.lload_n 1, 1) := by decide +kernel
theorem dX8_halvesInOrder_46 : decode cX8_halvesInOrder 46 = .ok (.lreturn, 1) := by decide +kernel
theorem dX8_apart_0 : decode cX8_apart 0 = .ok (.aload_n 0, 1) := by decide +kernel
theorem dX8_apart_1 : decode cX8_apart 1 = .ok (.getfield 21, 3) := by decide +kernel
theorem dX8_apart_4 : decode cX8_apart 4 = .ok (.iload_n 1, 1) := by decide +kernel
theorem dX8_apart_5 : decode cX8_apart 5 = .ok (.iconst 1, 1) := by decide +kernel
theorem dX8_apart_6 : decode cX8_apart 6 = .ok (.iadd, 1) := by decide +kernel
theorem dX8_apart_7 : decode cX8_apart 7 = .ok (.iaload, 1) := by decide +kernel
theorem dX8_apart_8 : decode cX8_apart 8 = .ok (.i2l, 1) := by decide +kernel
theorem dX8_apart_9 : decode cX8_apart 9 = .ok (.aload_n 0, 1) := by decide +kernel
theorem dX8_apart_10 : decode cX8_apart 10 = .ok (.invokevirtual 66, 3) := by decide +kernel
theorem dX8_apart_13 : decode cX8_apart 13 = .ok (.i2l, 1) := by decide +kernel
theorem dX8_apart_14 : decode cX8_apart 14 = .ok (.lmul, 1) := by decide +kernel
theorem dX8_apart_15 : decode cX8_apart 15 = .ok (.aload_n 0, 1) := by decide +kernel
theorem dX8_apart_16 : decode cX8_apart 16 = .ok (.getfield 24, 3) := by decide +kernel
theorem dX8_apart_19 : decode cX8_apart 19 = .ok (.iload_n 1, 1) := by decide +kernel
theorem dX8_apart_20 : decode cX8_apart 20 = .ok (.iconst 1, 1) := by decide +kernel
theorem dX8_apart_21 : decode cX8_apart 21 = .ok (.iadd, 1) := by decide +kernel
theorem dX8_apart_22 : decode cX8_apart 22 = .ok (.iaload, 1) := by decide +kernel
theorem dX8_apart_23 : decode cX8_apart 23 = .ok (.i2l, 1) := by decide +kernel
theorem dX8_apart_24 : decode cX8_apart 24 = .ok (.aload_n 0, 1) := by decide +kernel
theorem dX8_apart_25 : decode cX8_apart 25 = .ok (.invokevirtual 63, 3) := by decide +kernel
theorem dX8_apart_28 : decode cX8_apart 28 = .ok (.i2l, 1) := by decide +kernel
theorem dX8_apart_29 : decode cX8_apart 29 = .ok (.lmul, 1) := by decide +kernel
theorem dX8_apart_30 : decode cX8_apart 30 = .ok (.lsub, 1) := by decide +kernel
theorem dX8_apart_31 : decode cX8_apart 31 = .ok (.invokestatic 75, 3) := by decide +kernel
theorem dX8_apart_34 : decode cX8_apart 34 = .ok (.lreturn, 1) := by decide +kernel
theorem dX8_farthest_0 : decode cX8_farthest 0 = .ok (.iconst 0, 1) := by decide +kernel
theorem dX8_farthest_1 : decode cX8_farthest 1 = .ok (.istore_n 1, 1) := by decide +kernel
theorem dX8_farthest_2 : decode cX8_farthest 2 = .ok (.iconst 1, 1) := by decide +kernel
theorem dX8_farthest_3 : decode cX8_farthest 3 = .ok (.istore_n 2, 1) := by decide +kernel
theorem dX8_farthest_4 : decode cX8_farthest 4 = .ok (.iload_n 2, 1) := by decide +kernel
theorem dX8_farthest_5 : decode cX8_farthest 5 = .ok (.aload_n 0, 1) := by decide +kernel
theorem dX8_farthest_6 : decode cX8_farthest 6 = .ok (.getfield 27, 3) := by decide +kernel
theorem dX8_farthest_9 : decode cX8_farthest 9 = .ok (.if_icmp .ge 25, 3) := by decide +kernel
theorem dX8_farthest_12 : decode cX8_farthest 12 = .ok (.aload_n 0, 1) := by decide +kernel
theorem dX8_farthest_13 : decode cX8_farthest 13 = .ok (.iload_n 2, 1) := by decide +kernel
theorem dX8_farthest_14 : decode cX8_farthest 14 = .ok (.invokevirtual 79, 3) := by decide +kernel
theorem dX8_farthest_17 : decode cX8_farthest 17 = .ok (.aload_n 0, 1) := by decide +kernel
theorem dX8_farthest_18 : decode cX8_farthest 18 = .ok (.iload_n 1, 1) := by decide +kernel
theorem dX8_farthest_19 : decode cX8_farthest 19 = .ok (.invokevirtual 79, 3) := by decide +kernel
theorem dX8_farthest_22 : decode cX8_farthest 22 = .ok (.lcmp, 1) := by decide +kernel
theorem dX8_farthest_23 : decode cX8_farthest 23 = .ok (.ifCond .le 5, 3) := by decide +kernel
theorem dX8_farthest_26 : decode cX8_farthest 26 = .ok (.iload_n 2, 1) := by decide +kernel
theorem dX8_farthest_27 : decode cX8_farthest 27 = .ok (.istore_n 1, 1) := by decide +kernel
theorem dX8_farthest_28 : decode cX8_farthest 28 = .ok (.iinc 2 1, 3) := by decide +kernel
theorem dX8_farthest_31 : decode cX8_farthest 31 = .ok (.goto (-27), 3) := by decide +kernel
theorem dX8_farthest_34 : decode cX8_farthest 34 = .ok (.iload_n 1, 1) := by decide +kernel
theorem dX8_farthest_35 : decode cX8_farthest 35 = .ok (.ireturn, 1) := by decide +kernel
theorem dX8_isRiskier_0 : decode cX8_isRiskier 0 = .ok (.aload_n 0, 1) := by decide +kernel
theorem dX8_isRiskier_1 : decode cX8_isRiskier 1 = .ok (.getfield 18, 3) := by decide +kernel
theorem dX8_isRiskier_4 : decode cX8_isRiskier 4 = .ok (.iload_n 1, 1) := by decide +kernel
theorem dX8_isRiskier_5 : decode cX8_isRiskier 5 = .ok (.iaload, 1) := by decide +kernel
theorem dX8_isRiskier_6 : decode cX8_isRiskier 6 = .ok (.aload_n 0, 1) := by decide +kernel
theorem dX8_isRiskier_7 : decode cX8_isRiskier 7 = .ok (.getfield 15, 3) := by decide +kernel
theorem dX8_isRiskier_10 : decode cX8_isRiskier 10 = .ok (.iload_n 2, 1) := by decide +kernel
theorem dX8_isRiskier_11 : decode cX8_isRiskier 11 = .ok (.iaload, 1) := by decide +kernel
theorem dX8_isRiskier_12 : decode cX8_isRiskier 12 = .ok (.aload_n 0, 1) := by decide +kernel
theorem dX8_isRiskier_13 : decode cX8_isRiskier 13 = .ok (.getfield 18, 3) := by decide +kernel
theorem dX8_isRiskier_16 : decode cX8_isRiskier 16 = .ok (.iload_n 2, 1) := by decide +kernel
theorem dX8_isRiskier_17 : decode cX8_isRiskier 17 = .ok (.iaload, 1) := by decide +kernel
theorem dX8_isRiskier_18 : decode cX8_isRiskier 18 = .ok (.iadd, 1) := by decide +kernel
theorem dX8_isRiskier_19 : decode cX8_isRiskier 19 = .ok (.imul, 1) := by decide +kernel
theorem dX8_isRiskier_20 : decode cX8_isRiskier 20 = .ok (.aload_n 0, 1) := by decide +kernel
theorem dX8_isRiskier_21 : decode cX8_isRiskier 21 = .ok (.getfield 18, 3) := by decide +kernel
theorem dX8_isRiskier_24 : decode cX8_isRiskier 24 = .ok (.iload_n 2, 1) := by decide +kernel
theorem dX8_isRiskier_25 : decode cX8_isRiskier 25 = .ok (.iaload, 1) := by decide +kernel
theorem dX8_isRiskier_26 : decode cX8_isRiskier 26 = .ok (.aload_n 0, 1) := by decide +kernel
theorem dX8_isRiskier_27 : decode cX8_isRiskier 27 = .ok (.getfield 15, 3) := by decide +kernel
theorem dX8_isRiskier_30 : decode cX8_isRiskier 30 = .ok (.iload_n 1, 1) := by decide +kernel
theorem dX8_isRiskier_31 : decode cX8_isRiskier 31 = .ok (.iaload, 1) := by decide +kernel
theorem dX8_isRiskier_32 : decode cX8_isRiskier 32 = .ok (.aload_n 0, 1) := by decide +kernel
theorem dX8_isRiskier_33 : decode cX8_isRiskier 33 = .ok (.getfield 18, 3) := by decide +kernel
theorem dX8_isRiskier_36 : decode cX8_isRiskier 36 = .ok (.iload_n 1, 1) := by decide +kernel
theorem dX8_isRiskier_37 : decode cX8_isRiskier 37 = .ok (.iaload, 1) := by decide +kernel
theorem dX8_isRiskier_38 : decode cX8_isRiskier 38 = .ok (.iadd, 1) := by decide +kernel
theorem dX8_isRiskier_39 : decode cX8_isRiskier 39 = .ok (.imul, 1) := by decide +kernel
theorem dX8_isRiskier_40 : decode cX8_isRiskier 40 = .ok (.if_icmp .le 7, 3) := by decide +kernel
theorem dX8_isRiskier_43 : decode cX8_isRiskier 43 = .ok (.iconst 1, 1) := by decide +kernel
theorem dX8_isRiskier_44 : decode cX8_isRiskier 44 = .ok (.goto 4, 3) := by decide +kernel
theorem dX8_isRiskier_47 : decode cX8_isRiskier 47 = .ok (.iconst 0, 1) := by decide +kernel
theorem dX8_isRiskier_48 : decode cX8_isRiskier 48 = .ok (.ireturn, 1) := by decide +kernel
theorem dX8_cutBehind_0 : decode cX8_cutBehind 0 = .ok (.iload_n 1, 1) := by decide +kernel
theorem dX8_cutBehind_1 : decode cX8_cutBehind 1 = .ok (.ifCond .ne 7, 3) := by decide +kernel
theorem dX8_cutBehind_4 : decode cX8_cutBehind 4 = .ok (.iconst 0, 1) := by decide +kernel
theorem dX8_cutBehind_5 : decode cX8_cutBehind 5 = .ok (.goto 13, 3) := by decide +kernel
theorem dX8_cutBehind_8 : decode cX8_cutBehind 8 = .ok (.aload_n 0, 1) := by decide +kernel
theorem dX8_cutBehind_9 : decode cX8_cutBehind 9 = .ok (.getfield 9, 3) := by decide +kernel
theorem dX8_cutBehind_12 : decode cX8_cutBehind 12 = .ok (.iload_n 1, 1) := by decide +kernel
theorem dX8_cutBehind_13 : decode cX8_cutBehind 13 = .ok (.iconst 1, 1) := by decide +kernel
theorem dX8_cutBehind_14 : decode cX8_cutBehind 14 = .ok (.isub, 1) := by decide +kernel
theorem dX8_cutBehind_15 : decode cX8_cutBehind 15 = .ok (.iaload, 1) := by decide +kernel
theorem dX8_cutBehind_16 : decode cX8_cutBehind 16 = .ok (.iconst 1, 1) := by decide +kernel
theorem dX8_cutBehind_17 : decode cX8_cutBehind 17 = .ok (.iadd, 1) := by decide +kernel
theorem dX8_cutBehind_18 : decode cX8_cutBehind 18 = .ok (.ireturn, 1) := by decide +kernel
theorem dX8_costBehind_0 : decode cX8_costBehind 0 = .ok (.iload_n 2, 1) := by decide +kernel
theorem dX8_costBehind_1 : decode cX8_costBehind 1 = .ok (.aload_n 0, 1) := by decide +kernel
theorem dX8_costBehind_2 : decode cX8_costBehind 2 = .ok (.getfield 21, 3) := by decide +kernel
theorem dX8_costBehind_5 : decode cX8_costBehind 5 = .ok (.iload_n 1, 1) := by decide +kernel
theorem dX8_costBehind_6 : decode cX8_costBehind 6 = .ok (.iaload, 1) := by decide +kernel
theorem dX8_costBehind_7 : decode cX8_costBehind 7 = .ok (.imul, 1) := by decide +kernel
theorem dX8_costBehind_8 : decode cX8_costBehind 8 = .ok (.iload_n 3, 1) := by decide +kernel
theorem dX8_costBehind_9 : decode cX8_costBehind 9 = .ok (.aload_n 0, 1) := by decide +kernel
theorem dX8_costBehind_10 : decode cX8_costBehind 10 = .ok (.invokevirtual 66, 3) := by decide +kernel
theorem dX8_costBehind_13 : decode cX8_costBehind 13 = .ok (.aload_n 0, 1) := by decide +kernel
theorem dX8_costBehind_14 : decode cX8_costBehind 14 = .ok (.getfield 24, 3) := by decide +kernel
theorem dX8_costBehind_17 : decode cX8_costBehind 17 = .ok (.iload_n 1, 1) := by decide +kernel
theorem dX8_costBehind_18 : decode cX8_costBehind 18 = .ok (.iaload, 1) := by decide +kernel
theorem dX8_costBehind_19 : decode cX8_costBehind 19 = .ok (.isub, 1) := by decide +kernel
theorem dX8_costBehind_20 : decode cX8_costBehind 20 = .ok (.imul, 1) := by decide +kernel
theorem dX8_costBehind_21 : decode cX8_costBehind 21 = .ok (.iadd, 1) := by decide +kernel
theorem dX8_costBehind_22 : decode cX8_costBehind 22 = .ok (.ireturn, 1) := by decide +kernel
theorem dX8_cheapest_0 : decode cX8_cheapest 0 = .ok (.iconst 0, 1) := by decide +kernel
theorem dX8_cheapest_1 : decode cX8_cheapest 1 = .ok (.istore_n 3, 1) := by decide +kernel
theorem dX8_cheapest_2 : decode cX8_cheapest 2 = .ok (.iconst 1, 1) := by decide +kernel
theorem dX8_cheapest_3 : decode cX8_cheapest 3 = .ok (.istore 4, 2) := by decide +kernel
theorem dX8_cheapest_5 : decode cX8_cheapest 5 = .ok (.iload 4, 2) := by decide +kernel
theorem dX8_cheapest_7 : decode cX8_cheapest 7 = .ok (.aload_n 0, 1) := by decide +kernel
theorem dX8_cheapest_8 : decode cX8_cheapest 8 = .ok (.getfield 27, 3) := by decide +kernel
theorem dX8_cheapest_11 : decode cX8_cheapest 11 = .ok (.if_icmp .gt 30, 3) := by decide +kernel
theorem dX8_cheapest_14 : decode cX8_cheapest 14 = .ok (.aload_n 0, 1) := by decide +kernel
theorem dX8_cheapest_15 : decode cX8_cheapest 15 = .ok (.iload 4, 2) := by decide +kernel
theorem dX8_cheapest_17 : decode cX8_cheapest 17 = .ok (.iload_n 1, 1) := by decide +kernel
theorem dX8_cheapest_18 : decode cX8_cheapest 18 = .ok (.iload_n 2, 1) := by decide +kernel
theorem dX8_cheapest_19 : decode cX8_cheapest 19 = .ok (.invokevirtual 83, 3) := by decide +kernel
theorem dX8_cheapest_22 : decode cX8_cheapest 22 = .ok (.aload_n 0, 1) := by decide +kernel
theorem dX8_cheapest_23 : decode cX8_cheapest 23 = .ok (.iload_n 3, 1) := by decide +kernel
theorem dX8_cheapest_24 : decode cX8_cheapest 24 = .ok (.iload_n 1, 1) := by decide +kernel
theorem dX8_cheapest_25 : decode cX8_cheapest 25 = .ok (.iload_n 2, 1) := by decide +kernel
theorem dX8_cheapest_26 : decode cX8_cheapest 26 = .ok (.invokevirtual 83, 3) := by decide +kernel
theorem dX8_cheapest_29 : decode cX8_cheapest 29 = .ok (.if_icmp .ge 6, 3) := by decide +kernel
theorem dX8_cheapest_32 : decode cX8_cheapest 32 = .ok (.iload 4, 2) := by decide +kernel
theorem dX8_cheapest_34 : decode cX8_cheapest 34 = .ok (.istore_n 3, 1) := by decide +kernel
theorem dX8_cheapest_35 : decode cX8_cheapest 35 = .ok (.iinc 4 1, 3) := by decide +kernel
theorem dX8_cheapest_38 : decode cX8_cheapest 38 = .ok (.goto (-33), 3) := by decide +kernel
theorem dX8_cheapest_41 : decode cX8_cheapest 41 = .ok (.iload_n 3, 1) := by decide +kernel
theorem dX8_cheapest_42 : decode cX8_cheapest 42 = .ok (.ireturn, 1) := by decide +kernel
theorem dX8_leastCutOf_0 : decode cX8_leastCutOf 0 = .ok (.iconst 0, 1) := by decide +kernel
theorem dX8_leastCutOf_1 : decode cX8_leastCutOf 1 = .ok (.istore_n 2, 1) := by decide +kernel
theorem dX8_leastCutOf_2 : decode cX8_leastCutOf 2 = .ok (.iload_n 2, 1) := by decide +kernel
theorem dX8_leastCutOf_3 : decode cX8_leastCutOf 3 = .ok (.aload_n 0, 1) := by decide +kernel
theorem dX8_leastCutOf_4 : decode cX8_leastCutOf 4 = .ok (.getfield 27, 3) := by decide +kernel
theorem dX8_leastCutOf_7 : decode cX8_leastCutOf 7 = .ok (.if_icmp .ge 47, 3) := by decide +kernel
theorem dX8_leastCutOf_10 : decode cX8_leastCutOf 10 = .ok (.aload_n 0, 1) := by decide +kernel
theorem dX8_leastCutOf_11 : decode cX8_leastCutOf 11 = .ok (.invokevirtual 44, 3) := by decide +kernel
theorem dX8_leastCutOf_14 : decode cX8_leastCutOf 14 = .ok (.aload_n 0, 1) := by decide +kernel
theorem dX8_leastCutOf_15 : decode cX8_leastCutOf 15 = .ok (.iload_n 2, 1) := by decide +kernel
theorem dX8_leastCutOf_16 : decode cX8_leastCutOf 16 = .ok (.invokevirtual 56, 3) := by decide +kernel
theorem dX8_leastCutOf_19 : decode cX8_leastCutOf 19 = .ok (.isub, 1) := by decide +kernel
theorem dX8_leastCutOf_20 : decode cX8_leastCutOf 20 = .ok (.istore_n 3, 1) := by decide +kernel
theorem dX8_leastCutOf_21 : decode cX8_leastCutOf 21 = .ok (.aload_n 0, 1) := by decide +kernel
theorem dX8_leastCutOf_22 : decode cX8_leastCutOf 22 = .ok (.invokevirtual 66, 3) := by decide +kernel
theorem dX8_leastCutOf_25 : decode cX8_leastCutOf 25 = .ok (.aload_n 0, 1) := by decide +kernel
theorem dX8_leastCutOf_26 : decode cX8_leastCutOf 26 = .ok (.getfield 24, 3) := by decide +kernel
theorem dX8_leastCutOf_29 : decode cX8_leastCutOf 29 = .ok (.iload_n 2, 1) := by decide +kernel
theorem dX8_leastCutOf_30 : decode cX8_leastCutOf 30 = .ok (.iaload, 1) := by decide +kernel
theorem dX8_leastCutOf_31 : decode cX8_leastCutOf 31 = .ok (.isub, 1) := by decide +kernel
theorem dX8_leastCutOf_32 : decode cX8_leastCutOf 32 = .ok (.sipush 1000, 3) := by decide +kernel
theorem dX8_leastCutOf_35 : decode cX8_leastCutOf 35 = .ok (.imul, 1) := by decide +kernel
theorem dX8_leastCutOf_36 : decode cX8_leastCutOf 36 = .ok (.iload_n 1, 1) := by decide +kernel
theorem dX8_leastCutOf_37 : decode cX8_leastCutOf 37 = .ok (.iload_n 3, 1) := by decide +kernel
theorem dX8_leastCutOf_38 : decode cX8_leastCutOf 38 = .ok (.imul, 1) := by decide +kernel
theorem dX8_leastCutOf_39 : decode cX8_leastCutOf 39 = .ok (.if_icmp .gt 9, 3) := by decide +kernel
theorem dX8_leastCutOf_42 : decode cX8_leastCutOf 42 = .ok (.aload_n 0, 1) := by decide +kernel
theorem dX8_leastCutOf_43 : decode cX8_leastCutOf 43 = .ok (.iload_n 2, 1) := by decide +kernel
theorem dX8_leastCutOf_44 : decode cX8_leastCutOf 44 = .ok (.invokevirtual 87, 3) := by decide +kernel
theorem dX8_leastCutOf_47 : decode cX8_leastCutOf 47 = .ok (.ireturn, 1) := by decide +kernel
theorem dX8_leastCutOf_48 : decode cX8_leastCutOf 48 = .ok (.iinc 2 1, 3) := by decide +kernel
theorem dX8_leastCutOf_51 : decode cX8_leastCutOf 51 = .ok (.goto (-49), 3) := by decide +kernel
theorem dX8_leastCutOf_54 : decode cX8_leastCutOf 54 = .ok (.iconst (-1), 1) := by decide +kernel
theorem dX8_leastCutOf_55 : decode cX8_leastCutOf 55 = .ok (.ireturn, 1) := by decide +kernel
theorem dX8_greatestCutOf_0 : decode cX8_greatestCutOf 0 = .ok (.aload_n 0, 1) := by decide +kernel
theorem dX8_greatestCutOf_1 : decode cX8_greatestCutOf 1 = .ok (.getfield 27, 3) := by decide +kernel
theorem dX8_greatestCutOf_4 : decode cX8_greatestCutOf 4 = .ok (.ifCond .ne 5, 3) := by decide +kernel
theorem dX8_greatestCutOf_7 : decode cX8_greatestCutOf 7 = .ok (.iconst (-1), 1) := by decide +kernel
theorem dX8_greatestCutOf_8 : decode cX8_greatestCutOf 8 = .ok (.ireturn, 1) := by decide +kernel
theorem dX8_greatestCutOf_9 : decode cX8_greatestCutOf 9 = .ok (.iload_n 1, 1) := by decide +kernel
theorem dX8_greatestCutOf_10 : decode cX8_greatestCutOf 10 = .ok (.ifCond .ne 7, 3) := by decide +kernel
theorem dX8_greatestCutOf_13 : decode cX8_greatestCutOf 13 = .ok (.sipush 1000, 3) := by decide +kernel
theorem dX8_greatestCutOf_16 : decode cX8_greatestCutOf 16 = .ok (.ireturn, 1) := by decide +kernel
theorem dX8_greatestCutOf_17 : decode cX8_greatestCutOf 17 = .ok (.aload_n 0, 1) := by decide +kernel
theorem dX8_greatestCutOf_18 : decode cX8_greatestCutOf 18 = .ok (.getfield 27, 3) := by decide +kernel
theorem dX8_greatestCutOf_21 : decode cX8_greatestCutOf 21 = .ok (.iconst 1, 1) := by decide +kernel
theorem dX8_greatestCutOf_22 : decode cX8_greatestCutOf 22 = .ok (.isub, 1) := by decide +kernel
theorem dX8_greatestCutOf_23 : decode cX8_greatestCutOf 23 = .ok (.istore_n 2, 1) := by decide +kernel
theorem dX8_greatestCutOf_24 : decode cX8_greatestCutOf 24 = .ok (.iload_n 2, 1) := by decide +kernel
theorem dX8_greatestCutOf_25 : decode cX8_greatestCutOf 25 = .ok (.ifCond .le 39, 3) := by decide +kernel
theorem dX8_greatestCutOf_28 : decode cX8_greatestCutOf 28 = .ok (.aload_n 0, 1) := by decide +kernel
theorem dX8_greatestCutOf_29 : decode cX8_greatestCutOf 29 = .ok (.invokevirtual 44, 3) := by decide +kernel
theorem dX8_greatestCutOf_32 : decode cX8_greatestCutOf 32 = .ok (.aload_n 0, 1) := by decide +kernel
theorem dX8_greatestCutOf_33 : decode cX8_greatestCutOf 33 = .ok (.iload_n 2, 1) := by decide +kernel
theorem dX8_greatestCutOf_34 : decode cX8_greatestCutOf 34 = .ok (.invokevirtual 56, 3) := by decide +kernel
theorem dX8_greatestCutOf_37 : decode cX8_greatestCutOf 37 = .ok (.isub, 1) := by decide +kernel
theorem dX8_greatestCutOf_38 : decode cX8_greatestCutOf 38 = .ok (.sipush 1000, 3) := by decide +kernel
theorem dX8_greatestCutOf_41 : decode cX8_greatestCutOf 41 = .ok (.imul, 1) := by decide +kernel
theorem dX8_greatestCutOf_42 : decode cX8_greatestCutOf 42 = .ok (.iload_n 1, 1) := by decide +kernel
theorem dX8_greatestCutOf_43 : decode cX8_greatestCutOf 43 = .ok (.aload_n 0, 1) := by decide +kernel
theorem dX8_greatestCutOf_44 : decode cX8_greatestCutOf 44 = .ok (.invokevirtual 44, 3) := by decide +kernel
theorem dX8_greatestCutOf_47 : decode cX8_greatestCutOf 47 = .ok (.imul, 1) := by decide +kernel
theorem dX8_greatestCutOf_48 : decode cX8_greatestCutOf 48 = .ok (.if_icmp .lt 10, 3) := by decide +kernel
theorem dX8_greatestCutOf_51 : decode cX8_greatestCutOf 51 = .ok (.aload_n 0, 1) := by decide +kernel
theorem dX8_greatestCutOf_52 : decode cX8_greatestCutOf 52 = .ok (.getfield 9, 3) := by decide +kernel
theorem dX8_greatestCutOf_55 : decode cX8_greatestCutOf 55 = .ok (.iload_n 2, 1) := by decide +kernel
theorem dX8_greatestCutOf_56 : decode cX8_greatestCutOf 56 = .ok (.iaload, 1) := by decide +kernel
theorem dX8_greatestCutOf_57 : decode cX8_greatestCutOf 57 = .ok (.ireturn, 1) := by decide +kernel
theorem dX8_greatestCutOf_58 : decode cX8_greatestCutOf 58 = .ok (.iinc 2 (-1), 3) := by decide +kernel
theorem dX8_greatestCutOf_61 : decode cX8_greatestCutOf 61 = .ok (.goto (-37), 3) := by decide +kernel
theorem dX8_greatestCutOf_64 : decode cX8_greatestCutOf 64 = .ok (.aload_n 0, 1) := by decide +kernel
theorem dX8_greatestCutOf_65 : decode cX8_greatestCutOf 65 = .ok (.getfield 9, 3) := by decide +kernel
theorem dX8_greatestCutOf_68 : decode cX8_greatestCutOf 68 = .ok (.iconst 0, 1) := by decide +kernel
theorem dX8_greatestCutOf_69 : decode cX8_greatestCutOf 69 = .ok (.iaload, 1) := by decide +kernel
theorem dX8_greatestCutOf_70 : decode cX8_greatestCutOf 70 = .ok (.ireturn, 1) := by decide +kernel
theorem dX8_badOfFew_0 : decode cX8_badOfFew 0 = .ok (.iconst 0, 1) := by decide +kernel
theorem dX8_badOfFew_1 : decode cX8_badOfFew 1 = .ok (.istore_n 2, 1) := by decide +kernel
theorem dX8_badOfFew_2 : decode cX8_badOfFew 2 = .ok (.iload_n 2, 1) := by decide +kernel
theorem dX8_badOfFew_3 : decode cX8_badOfFew 3 = .ok (.aload_n 0, 1) := by decide +kernel
theorem dX8_badOfFew_4 : decode cX8_badOfFew 4 = .ok (.getfield 27, 3) := by decide +kernel
theorem dX8_badOfFew_7 : decode cX8_badOfFew 7 = .ok (.if_icmp .ge 34, 3) := by decide +kernel
theorem dX8_badOfFew_10 : decode cX8_badOfFew 10 = .ok (.aload_n 0, 1) := by decide +kernel
theorem dX8_badOfFew_11 : decode cX8_badOfFew 11 = .ok (.iload_n 2, 1) := by decide +kernel
theorem dX8_badOfFew_12 : decode cX8_badOfFew 12 = .ok (.invokevirtual 56, 3) := by decide +kernel
theorem dX8_badOfFew_15 : decode cX8_badOfFew 15 = .ok (.sipush 1000, 3) := by decide +kernel
theorem dX8_badOfFew_18 : decode cX8_badOfFew 18 = .ok (.imul, 1) := by decide +kernel
theorem dX8_badOfFew_19 : decode cX8_badOfFew 19 = .ok (.iload_n 1, 1) := by decide +kernel
theorem dX8_badOfFew_20 : decode cX8_badOfFew 20 = .ok (.aload_n 0, 1) := by decide +kernel
theorem dX8_badOfFew_21 : decode cX8_badOfFew 21 = .ok (.invokevirtual 44, 3) := by decide +kernel
theorem dX8_badOfFew_24 : decode cX8_badOfFew 24 = .ok (.imul, 1) := by decide +kernel
theorem dX8_badOfFew_25 : decode cX8_badOfFew 25 = .ok (.if_icmp .lt 10, 3) := by decide +kernel
theorem dX8_badOfFew_28 : decode cX8_badOfFew 28 = .ok (.aload_n 0, 1) := by decide +kernel
theorem dX8_badOfFew_29 : decode cX8_badOfFew 29 = .ok (.getfield 24, 3) := by decide +kernel
theorem dX8_badOfFew_32 : decode cX8_badOfFew 32 = .ok (.iload_n 2, 1) := by decide +kernel
theorem dX8_badOfFew_33 : decode cX8_badOfFew 33 = .ok (.iaload, 1) := by decide +kernel
theorem dX8_badOfFew_34 : decode cX8_badOfFew 34 = .ok (.ireturn, 1) := by decide +kernel
theorem dX8_badOfFew_35 : decode cX8_badOfFew 35 = .ok (.iinc 2 1, 3) := by decide +kernel
theorem dX8_badOfFew_38 : decode cX8_badOfFew 38 = .ok (.goto (-36), 3) := by decide +kernel
theorem dX8_badOfFew_41 : decode cX8_badOfFew 41 = .ok (.aload_n 0, 1) := by decide +kernel
theorem dX8_badOfFew_42 : decode cX8_badOfFew 42 = .ok (.invokevirtual 66, 3) := by decide +kernel
theorem dX8_badOfFew_45 : decode cX8_badOfFew 45 = .ok (.ireturn, 1) := by decide +kernel
theorem dX9_init_0 : decode cX9_init 0 = .ok (.aload_n 0, 1) := by decide +kernel
theorem dX9_init_1 : decode cX9_init 1 = .ok (.invokespecial 1, 3) := by decide +kernel
theorem dX9_init_4 : decode cX9_init 4 = .ok (.aload_n 0, 1) := by decide +kernel
theorem dX9_init_5 : decode cX9_init 5 = .ok (.aload_n 1, 1) := by decide +kernel
theorem dX9_init_6 : decode cX9_init 6 = .ok (.getfield 7, 3) := by decide +kernel
theorem dX9_init_9 : decode cX9_init 9 = .ok (.putfield 13, 3) := by decide +kernel
theorem dX9_init_12 : decode cX9_init 12 = .ok (.aload_n 0, 1) := by decide +kernel
theorem dX9_init_13 : decode cX9_init 13 = .ok (.aload_n 1, 1) := by decide +kernel
theorem dX9_init_14 : decode cX9_init 14 = .ok (.getfield 18, 3) := by decide +kernel
theorem dX9_init_17 : decode cX9_init 17 = .ok (.aload_n 0, 1) := by decide +kernel
theorem dX9_init_18 : decode cX9_init 18 = .ok (.getfield 13, 3) := by decide +kernel
theorem dX9_init_21 : decode cX9_init 21 = .ok (.invokestatic 22, 3) := by decide +kernel
theorem dX9_init_24 : decode cX9_init 24 = .ok (.putfield 28, 3) := by decide +kernel
theorem dX9_init_27 : decode cX9_init 27 = .ok (.aload_n 0, 1) := by decide +kernel
theorem dX9_init_28 : decode cX9_init 28 = .ok (.aload_n 0, 1) := by decide +kernel
theorem dX9_init_29 : decode cX9_init 29 = .ok (.getfield 13, 3) := by decide +kernel
theorem dX9_init_32 : decode cX9_init 32 = .ok (.newarray .int, 2) := by decide +kernel
theorem dX9_init_34 : decode cX9_init 34 = .ok (.putfield 29, 3) := by decide +kernel
theorem dX9_init_37 : decode cX9_init 37 = .ok (.iconst 0, 1) := by decide +kernel
theorem dX9_init_38 : decode cX9_init 38 = .ok (.istore_n 2, 1) := by decide +kernel
theorem dX9_init_39 : decode cX9_init 39 = .ok (.iconst 0, 1) := by decide +kernel
theorem dX9_init_40 : decode cX9_init 40 = .ok (.istore_n 3, 1) := by decide +kernel
theorem dX9_init_41 : decode cX9_init 41 = .ok (.iload_n 3, 1) := by decide +kernel
theorem dX9_init_42 : decode cX9_init 42 = .ok (.aload_n 0, 1) := by decide +kernel
theorem dX9_init_43 : decode cX9_init 43 = .ok (.getfield 13, 3) := by decide +kernel
theorem dX9_init_46 : decode cX9_init 46 = .ok (.if_icmp .ge 37, 3) := by decide +kernel
theorem dX9_init_49 : decode cX9_init 49 = .ok (.aload_n 0, 1) := by decide +kernel
theorem dX9_init_50 : decode cX9_init 50 = .ok (.getfield 29, 3) := by decide +kernel
theorem dX9_init_53 : decode cX9_init 53 = .ok (.iload_n 3, 1) := by decide +kernel
theorem dX9_init_54 : decode cX9_init 54 = .ok (.aload_n 1, 1) := by decide +kernel
theorem dX9_init_55 : decode cX9_init 55 = .ok (.getfield 32, 3) := by decide +kernel
theorem dX9_init_58 : decode cX9_init 58 = .ok (.iload_n 3, 1) := by decide +kernel
theorem dX9_init_59 : decode cX9_init 59 = .ok (.iaload, 1) := by decide +kernel
theorem dX9_init_60 : decode cX9_init 60 = .ok (.aload_n 1, 1) := by decide +kernel
theorem dX9_init_61 : decode cX9_init 61 = .ok (.getfield 35, 3) := by decide +kernel
theorem dX9_init_64 : decode cX9_init 64 = .ok (.iload_n 3, 1) := by decide +kernel
theorem dX9_init_65 : decode cX9_init 65 = .ok (.iaload, 1) := by decide +kernel
theorem dX9_init_66 : decode cX9_init 66 = .ok (.iadd, 1) := by decide +kernel
theorem dX9_init_67 : decode cX9_init 67 = .ok (.iastore, 1) := by decide +kernel
theorem dX9_init_68 : decode cX9_init 68 = .ok (.iload_n 2, 1) := by decide +kernel
theorem dX9_init_69 : decode cX9_init 69 = .ok (.aload_n 0, 1) := by decide +kernel
theorem dX9_init_70 : decode cX9_init 70 = .ok (.getfield 29, 3) := by decide +kernel
theorem dX9_init_73 : decode cX9_init 73 = .ok (.iload_n 3, 1) := by decide +kernel
theorem dX9_init_74 : decode cX9_init 74 = .ok (.iaload, 1) := by decide +kernel
theorem dX9_init_75 : decode cX9_init 75 = .ok (.iadd, 1) := by decide +kernel
theorem dX9_init_76 : decode cX9_init 76 = .ok (.istore_n 2, 1) := by decide +kernel
theorem dX9_init_77 : decode cX9_init 77 = .ok (.iinc 3 1, 3) := by decide +kernel
theorem dX9_init_80 : decode cX9_init 80 = .ok (.goto (-39), 3) := by decide +kernel
theorem dX9_init_83 : decode cX9_init 83 = .ok (.aload_n 0, 1) := by decide +kernel
theorem dX9_init_84 : decode cX9_init 84 = .ok (.iload_n 2, 1) := by decide +kernel
theorem dX9_init_85 : decode cX9_init 85 = .ok (.putfield 38, 3) := by decide +kernel
theorem dX9_init_88 : decode cX9_init 88 = .ok (.return_, 1) := by decide +kernel
theorem dX9_scoresTogether_0 : decode cX9_scoresTogether 0 = .ok (.lconst 0, 1) := by decide +kernel
theorem dX9_scoresTogether_1 : decode cX9_scoresTogether 1 = .ok (.lstore_n 1, 1) := by decide +kernel
theorem dX9_scoresTogether_2 : decode cX9_scoresTogether 2 = .ok (.iconst 0, 1) := by decide +kernel
theorem dX9_scoresTogether_3 : decode cX9_scoresTogether 3 = .ok (.istore_n 3, 1) := by decide +kernel
theorem dX9_scoresTogether_4 : decode cX9_scoresTogether 4 = .ok (.iload_n 3, 1) := by decide +kernel
theorem dX9_scoresTogether_5 : decode cX9_scoresTogether 5 = .ok (.aload_n 0, 1) := by decide +kernel
theorem dX9_scoresTogether_6 : decode cX9_scoresTogether 6 = .ok (.getfield 13, 3) := by decide +kernel
theorem dX9_scoresTogether_9 : decode cX9_scoresTogether 9 = .ok (.if_icmp .ge 27, 3) := by decide +kernel
theorem dX9_scoresTogether_12 : decode cX9_scoresTogether 12 = .ok (.lload_n 1, 1) := by decide +kernel
theorem dX9_scoresTogether_13 : decode cX9_scoresTogether 13 = .ok (.aload_n 0, 1) := by decide +kernel
theorem dX9_scoresTogether_14 : decode cX9_scoresTogether 14 = .ok (.getfield 28, 3) := by decide +kernel
theorem dX9_scoresTogether_17 : decode cX9_scoresTogether 17 = .ok (.iload_n 3, 1) := by decide +kernel
theorem dX9_scoresTogether_18 : decode cX9_scoresTogether 18 = .ok (.iaload, 1) := by decide +kernel
