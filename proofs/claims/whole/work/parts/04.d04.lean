theorem dX12_hull_51 : decode cX12_hull 51 = .ok (.iload_n 1, 1) := by decide +kernel
theorem dX12_hull_52 : decode cX12_hull 52 = .ok (.invokevirtual 264, 3) := by decide +kernel
theorem dX12_hull_55 : decode cX12_hull 55 = .ok (.goto 11, 3) := by decide +kernel
theorem dX12_hull_58 : decode cX12_hull 58 = .ok (.aload_n 0, 1) := by decide +kernel
theorem dX12_hull_59 : decode cX12_hull 59 = .ok (.getfield 47, 3) := by decide +kernel
theorem dX12_hull_62 : decode cX12_hull 62 = .ok (.iload_n 1, 1) := by decide +kernel
theorem dX12_hull_63 : decode cX12_hull 63 = .ok (.invokevirtual 267, 3) := by decide +kernel
theorem dX12_hull_66 : decode cX12_hull 66 = .ok (.ireturn, 1) := by decide +kernel
theorem dX12_mixed_0 : decode cX12_mixed 0 = .ok (.aload_n 0, 1) := by decide +kernel
theorem dX12_mixed_1 : decode cX12_mixed 1 = .ok (.invokevirtual 151, 3) := by decide +kernel
theorem dX12_mixed_4 : decode cX12_mixed 4 = .ok (.aload_n 0, 1) := by decide +kernel
theorem dX12_mixed_5 : decode cX12_mixed 5 = .ok (.getfield 47, 3) := by decide +kernel
theorem dX12_mixed_8 : decode cX12_mixed 8 = .ok (.getfield 162, 3) := by decide +kernel
theorem dX12_mixed_11 : decode cX12_mixed 11 = .ok (.ifCond .eq 27, 3) := by decide +kernel
theorem dX12_mixed_14 : decode cX12_mixed 14 = .ok (.iload_n 1, 1) := by decide +kernel
theorem dX12_mixed_15 : decode cX12_mixed 15 = .ok (.ifCond .lt 23, 3) := by decide +kernel
theorem dX12_mixed_18 : decode cX12_mixed 18 = .ok (.iload_n 1, 1) := by decide +kernel
theorem dX12_mixed_19 : decode cX12_mixed 19 = .ok (.aload_n 0, 1) := by decide +kernel
theorem dX12_mixed_20 : decode cX12_mixed 20 = .ok (.getfield 40, 3) := by decide +kernel
theorem dX12_mixed_23 : decode cX12_mixed 23 = .ok (.invokevirtual 155, 3) := by decide +kernel
theorem dX12_mixed_26 : decode cX12_mixed 26 = .ok (.if_icmp .gt 12, 3) := by decide +kernel
theorem dX12_mixed_29 : decode cX12_mixed 29 = .ok (.iload_n 2, 1) := by decide +kernel
theorem dX12_mixed_30 : decode cX12_mixed 30 = .ok (.ifCond .lt 8, 3) := by decide +kernel
theorem dX12_mixed_33 : decode cX12_mixed 33 = .ok (.iload_n 2, 1) := by decide +kernel
theorem dX12_mixed_34 : decode cX12_mixed 34 = .ok (.iconst 1, 1) := by decide +kernel
theorem dX12_mixed_35 : decode cX12_mixed 35 = .ok (.if_icmp .le 7, 3) := by decide +kernel
theorem dX12_mixed_38 : decode cX12_mixed 38 = .ok (.ldc2_w 225, 3) := by decide +kernel
theorem dX12_mixed_41 : decode cX12_mixed 41 = .ok (.lreturn, 1) := by decide +kernel
theorem dX12_mixed_42 : decode cX12_mixed 42 = .ok (.aload_n 0, 1) := by decide +kernel
theorem dX12_mixed_43 : decode cX12_mixed 43 = .ok (.getfield 47, 3) := by decide +kernel
theorem dX12_mixed_46 : decode cX12_mixed 46 = .ok (.iload_n 1, 1) := by decide +kernel
theorem dX12_mixed_47 : decode cX12_mixed 47 = .ok (.iload_n 2, 1) := by decide +kernel
theorem dX12_mixed_48 : decode cX12_mixed 48 = .ok (.invokevirtual 270, 3) := by decide +kernel
theorem dX12_mixed_51 : decode cX12_mixed 51 = .ok (.lreturn, 1) := by decide +kernel
theorem dX12_cost_0 : decode cX12_cost 0 = .ok (.iload_n 1, 1) := by decide +kernel
theorem dX12_cost_1 : decode cX12_cost 1 = .ok (.invokestatic 274, 3) := by decide +kernel
theorem dX12_cost_4 : decode cX12_cost 4 = .ok (.ifCond .ne 6, 3) := by decide +kernel
theorem dX12_cost_7 : decode cX12_cost 7 = .ok (.bipush (-2), 2) := by decide +kernel
theorem dX12_cost_9 : decode cX12_cost 9 = .ok (.ireturn, 1) := by decide +kernel
theorem dX12_cost_10 : decode cX12_cost 10 = .ok (.aload_n 0, 1) := by decide +kernel
theorem dX12_cost_11 : decode cX12_cost 11 = .ok (.invokevirtual 151, 3) := by decide +kernel
theorem dX12_cost_14 : decode cX12_cost 14 = .ok (.aload_n 0, 1) := by decide +kernel
theorem dX12_cost_15 : decode cX12_cost 15 = .ok (.getfield 40, 3) := by decide +kernel
theorem dX12_cost_18 : decode cX12_cost 18 = .ok (.aload_n 0, 1) := by decide +kernel
theorem dX12_cost_19 : decode cX12_cost 19 = .ok (.getfield 40, 3) := by decide +kernel
theorem dX12_cost_22 : decode cX12_cost 22 = .ok (.iload_n 1, 1) := by decide +kernel
theorem dX12_cost_23 : decode cX12_cost 23 = .ok (.invokevirtual 277, 3) := by decide +kernel
theorem dX12_cost_26 : decode cX12_cost 26 = .ok (.aload_n 0, 1) := by decide +kernel
theorem dX12_cost_27 : decode cX12_cost 27 = .ok (.getfield 33, 3) := by decide +kernel
theorem dX12_cost_30 : decode cX12_cost 30 = .ok (.getfield 169, 3) := by decide +kernel
theorem dX12_cost_33 : decode cX12_cost 33 = .ok (.aload_n 0, 1) := by decide +kernel
theorem dX12_cost_34 : decode cX12_cost 34 = .ok (.getfield 33, 3) := by decide +kernel
theorem dX12_cost_37 : decode cX12_cost 37 = .ok (.getfield 172, 3) := by decide +kernel
theorem dX12_cost_40 : decode cX12_cost 40 = .ok (.invokevirtual 280, 3) := by decide +kernel
theorem dX12_cost_43 : decode cX12_cost 43 = .ok (.ireturn, 1) := by decide +kernel
theorem dX12_cut_0 : decode cX12_cut 0 = .ok (.iload_n 1, 1) := by decide +kernel
theorem dX12_cut_1 : decode cX12_cut 1 = .ok (.ifCond .lt 8, 3) := by decide +kernel
theorem dX12_cut_4 : decode cX12_cut 4 = .ok (.iload_n 1, 1) := by decide +kernel
theorem dX12_cut_5 : decode cX12_cut 5 = .ok (.iconst 1, 1) := by decide +kernel
theorem dX12_cut_6 : decode cX12_cut 6 = .ok (.if_icmp .le 6, 3) := by decide +kernel
theorem dX12_cut_9 : decode cX12_cut 9 = .ok (.bipush (-2), 2) := by decide +kernel
theorem dX12_cut_11 : decode cX12_cut 11 = .ok (.ireturn, 1) := by decide +kernel
theorem dX12_cut_12 : decode cX12_cut 12 = .ok (.aload_n 0, 1) := by decide +kernel
theorem dX12_cut_13 : decode cX12_cut 13 = .ok (.invokevirtual 151, 3) := by decide +kernel
theorem dX12_cut_16 : decode cX12_cut 16 = .ok (.aload_n 0, 1) := by decide +kernel
theorem dX12_cut_17 : decode cX12_cut 17 = .ok (.getfield 40, 3) := by decide +kernel
theorem dX12_cut_20 : decode cX12_cut 20 = .ok (.aload_n 0, 1) := by decide +kernel
theorem dX12_cut_21 : decode cX12_cut 21 = .ok (.getfield 33, 3) := by decide +kernel
theorem dX12_cut_24 : decode cX12_cut 24 = .ok (.getfield 169, 3) := by decide +kernel
theorem dX12_cut_27 : decode cX12_cut 27 = .ok (.aload_n 0, 1) := by decide +kernel
theorem dX12_cut_28 : decode cX12_cut 28 = .ok (.getfield 33, 3) := by decide +kernel
theorem dX12_cut_31 : decode cX12_cut 31 = .ok (.getfield 172, 3) := by decide +kernel
theorem dX12_cut_34 : decode cX12_cut 34 = .ok (.invokevirtual 284, 3) := by decide +kernel
theorem dX12_cut_37 : decode cX12_cut 37 = .ok (.istore_n 2, 1) := by decide +kernel
theorem dX12_cut_38 : decode cX12_cut 38 = .ok (.iload_n 1, 1) := by decide +kernel
theorem dX12_cut_39 : decode cX12_cut 39 = .ok (.ifCond .ne 14, 3) := by decide +kernel
theorem dX12_cut_42 : decode cX12_cut 42 = .ok (.aload_n 0, 1) := by decide +kernel
theorem dX12_cut_43 : decode cX12_cut 43 = .ok (.getfield 40, 3) := by decide +kernel
theorem dX12_cut_46 : decode cX12_cut 46 = .ok (.iload_n 2, 1) := by decide +kernel
theorem dX12_cut_47 : decode cX12_cut 47 = .ok (.invokevirtual 288, 3) := by decide +kernel
theorem dX12_cut_50 : decode cX12_cut 50 = .ok (.goto 25, 3) := by decide +kernel
theorem dX12_cut_53 : decode cX12_cut 53 = .ok (.aload_n 0, 1) := by decide +kernel
theorem dX12_cut_54 : decode cX12_cut 54 = .ok (.getfield 40, 3) := by decide +kernel
theorem dX12_cut_57 : decode cX12_cut 57 = .ok (.iload_n 2, 1) := by decide +kernel
theorem dX12_cut_58 : decode cX12_cut 58 = .ok (.aload_n 0, 1) := by decide +kernel
theorem dX12_cut_59 : decode cX12_cut 59 = .ok (.getfield 33, 3) := by decide +kernel
theorem dX12_cut_62 : decode cX12_cut 62 = .ok (.getfield 169, 3) := by decide +kernel
theorem dX12_cut_65 : decode cX12_cut 65 = .ok (.aload_n 0, 1) := by decide +kernel
theorem dX12_cut_66 : decode cX12_cut 66 = .ok (.getfield 33, 3) := by decide +kernel
theorem dX12_cut_69 : decode cX12_cut 69 = .ok (.getfield 172, 3) := by decide +kernel
theorem dX12_cut_72 : decode cX12_cut 72 = .ok (.invokevirtual 280, 3) := by decide +kernel
theorem dX12_cut_75 : decode cX12_cut 75 = .ok (.ireturn, 1) := by decide +kernel
theorem dX12_refer_0 : decode cX12_refer 0 = .ok (.iload_n 1, 1) := by decide +kernel
theorem dX12_refer_1 : decode cX12_refer 1 = .ok (.invokestatic 274, 3) := by decide +kernel
theorem dX12_refer_4 : decode cX12_refer 4 = .ok (.ifCond .eq 15, 3) := by decide +kernel
theorem dX12_refer_7 : decode cX12_refer 7 = .ok (.iload_n 2, 1) := by decide +kernel
theorem dX12_refer_8 : decode cX12_refer 8 = .ok (.invokestatic 274, 3) := by decide +kernel
theorem dX12_refer_11 : decode cX12_refer 11 = .ok (.ifCond .eq 8, 3) := by decide +kernel
theorem dX12_refer_14 : decode cX12_refer 14 = .ok (.iload_n 1, 1) := by decide +kernel
theorem dX12_refer_15 : decode cX12_refer 15 = .ok (.iload_n 2, 1) := by decide +kernel
theorem dX12_refer_16 : decode cX12_refer 16 = .ok (.if_icmp .le 6, 3) := by decide +kernel
theorem dX12_refer_19 : decode cX12_refer 19 = .ok (.bipush (-2), 2) := by decide +kernel
theorem dX12_refer_21 : decode cX12_refer 21 = .ok (.ireturn, 1) := by decide +kernel
theorem dX12_refer_22 : decode cX12_refer 22 = .ok (.aload_n 0, 1) := by decide +kernel
theorem dX12_refer_23 : decode cX12_refer 23 = .ok (.invokevirtual 151, 3) := by decide +kernel
theorem dX12_refer_26 : decode cX12_refer 26 = .ok (.aload_n 0, 1) := by decide +kernel
theorem dX12_refer_27 : decode cX12_refer 27 = .ok (.getfield 40, 3) := by decide +kernel
theorem dX12_refer_30 : decode cX12_refer 30 = .ok (.iload_n 1, 1) := by decide +kernel
theorem dX12_refer_31 : decode cX12_refer 31 = .ok (.invokevirtual 277, 3) := by decide +kernel
theorem dX12_refer_34 : decode cX12_refer 34 = .ok (.istore_n 3, 1) := by decide +kernel
theorem dX12_refer_35 : decode cX12_refer 35 = .ok (.aload_n 0, 1) := by decide +kernel
theorem dX12_refer_36 : decode cX12_refer 36 = .ok (.getfield 40, 3) := by decide +kernel
theorem dX12_refer_39 : decode cX12_refer 39 = .ok (.iload_n 2, 1) := by decide +kernel
theorem dX12_refer_40 : decode cX12_refer 40 = .ok (.invokevirtual 277, 3) := by decide +kernel
theorem dX12_refer_43 : decode cX12_refer 43 = .ok (.istore 4, 2) := by decide +kernel
theorem dX12_refer_45 : decode cX12_refer 45 = .ok (.aload_n 0, 1) := by decide +kernel
theorem dX12_refer_46 : decode cX12_refer 46 = .ok (.getfield 40, 3) := by decide +kernel
theorem dX12_refer_49 : decode cX12_refer 49 = .ok (.iload 4, 2) := by decide +kernel
theorem dX12_refer_51 : decode cX12_refer 51 = .ok (.invokevirtual 291, 3) := by decide +kernel
theorem dX12_refer_54 : decode cX12_refer 54 = .ok (.aload_n 0, 1) := by decide +kernel
theorem dX12_refer_55 : decode cX12_refer 55 = .ok (.getfield 40, 3) := by decide +kernel
theorem dX12_refer_58 : decode cX12_refer 58 = .ok (.iload_n 3, 1) := by decide +kernel
theorem dX12_refer_59 : decode cX12_refer 59 = .ok (.invokevirtual 291, 3) := by decide +kernel
theorem dX12_refer_62 : decode cX12_refer 62 = .ok (.isub, 1) := by decide +kernel
theorem dX12_refer_63 : decode cX12_refer 63 = .ok (.istore 5, 2) := by decide +kernel
theorem dX12_refer_65 : decode cX12_refer 65 = .ok (.aload_n 0, 1) := by decide +kernel
theorem dX12_refer_66 : decode cX12_refer 66 = .ok (.getfield 33, 3) := by decide +kernel
theorem dX12_refer_69 : decode cX12_refer 69 = .ok (.getfield 169, 3) := by decide +kernel
theorem dX12_refer_72 : decode cX12_refer 72 = .ok (.aload_n 0, 1) := by decide +kernel
theorem dX12_refer_73 : decode cX12_refer 73 = .ok (.getfield 40, 3) := by decide +kernel
theorem dX12_refer_76 : decode cX12_refer 76 = .ok (.getfield 294, 3) := by decide +kernel
theorem dX12_refer_79 : decode cX12_refer 79 = .ok (.iload_n 3, 1) := by decide +kernel
theorem dX12_refer_80 : decode cX12_refer 80 = .ok (.iaload, 1) := by decide +kernel
theorem dX12_refer_81 : decode cX12_refer 81 = .ok (.imul, 1) := by decide +kernel
theorem dX12_refer_82 : decode cX12_refer 82 = .ok (.aload_n 0, 1) := by decide +kernel
theorem dX12_refer_83 : decode cX12_refer 83 = .ok (.getfield 33, 3) := by decide +kernel
theorem dX12_refer_86 : decode cX12_refer 86 = .ok (.getfield 175, 3) := by decide +kernel
theorem dX12_refer_89 : decode cX12_refer 89 = .ok (.iload 5, 2) := by decide +kernel
theorem dX12_refer_91 : decode cX12_refer 91 = .ok (.imul, 1) := by decide +kernel
theorem dX12_refer_92 : decode cX12_refer 92 = .ok (.iadd, 1) := by decide +kernel
theorem dX12_refer_93 : decode cX12_refer 93 = .ok (.aload_n 0, 1) := by decide +kernel
theorem dX12_refer_94 : decode cX12_refer 94 = .ok (.getfield 33, 3) := by decide +kernel
theorem dX12_refer_97 : decode cX12_refer 97 = .ok (.getfield 172, 3) := by decide +kernel
theorem dX12_refer_100 : decode cX12_refer 100 = .ok (.aload_n 0, 1) := by decide +kernel
theorem dX12_refer_101 : decode cX12_refer 101 = .ok (.getfield 40, 3) := by decide +kernel
theorem dX12_refer_104 : decode cX12_refer 104 = .ok (.invokevirtual 159, 3) := by decide +kernel
theorem dX12_refer_107 : decode cX12_refer 107 = .ok (.aload_n 0, 1) := by decide +kernel
theorem dX12_refer_108 : decode cX12_refer 108 = .ok (.getfield 40, 3) := by decide +kernel
theorem dX12_refer_111 : decode cX12_refer 111 = .ok (.getfield 297, 3) := by decide +kernel
theorem dX12_refer_114 : decode cX12_refer 114 = .ok (.iload 4, 2) := by decide +kernel
theorem dX12_refer_116 : decode cX12_refer 116 = .ok (.iaload, 1) := by decide +kernel
theorem dX12_refer_117 : decode cX12_refer 117 = .ok (.isub, 1) := by decide +kernel
theorem dX12_refer_118 : decode cX12_refer 118 = .ok (.imul, 1) := by decide +kernel
theorem dX12_refer_119 : decode cX12_refer 119 = .ok (.iadd, 1) := by decide +kernel
theorem dX12_refer_120 : decode cX12_refer 120 = .ok (.ireturn, 1) := by decide +kernel
theorem dX12_two_0 : decode cX12_two 0 = .ok (.iload_n 1, 1) := by decide +kernel
theorem dX12_two_1 : decode cX12_two 1 = .ok (.ifCond .lt 8, 3) := by decide +kernel
theorem dX12_two_4 : decode cX12_two 4 = .ok (.iload_n 1, 1) := by decide +kernel
theorem dX12_two_5 : decode cX12_two 5 = .ok (.iconst 2, 1) := by decide +kernel
theorem dX12_two_6 : decode cX12_two 6 = .ok (.if_icmp .le 6, 3) := by decide +kernel
theorem dX12_two_9 : decode cX12_two 9 = .ok (.bipush (-2), 2) := by decide +kernel
theorem dX12_two_11 : decode cX12_two 11 = .ok (.ireturn, 1) := by decide +kernel
theorem dX12_two_12 : decode cX12_two 12 = .ok (.aload_n 0, 1) := by decide +kernel
theorem dX12_two_13 : decode cX12_two 13 = .ok (.invokevirtual 151, 3) := by decide +kernel
theorem dX12_two_16 : decode cX12_two 16 = .ok (.aload_n 0, 1) := by decide +kernel
theorem dX12_two_17 : decode cX12_two 17 = .ok (.getfield 57, 3) := by decide +kernel
theorem dX12_two_20 : decode cX12_two 20 = .ok (.aload_n 0, 1) := by decide +kernel
theorem dX12_two_21 : decode cX12_two 21 = .ok (.getfield 40, 3) := by decide +kernel
theorem dX12_two_24 : decode cX12_two 24 = .ok (.aload_n 0, 1) := by decide +kernel
theorem dX12_two_25 : decode cX12_two 25 = .ok (.getfield 33, 3) := by decide +kernel
theorem dX12_two_28 : decode cX12_two 28 = .ok (.invokevirtual 300, 3) := by decide +kernel
theorem dX12_two_31 : decode cX12_two 31 = .ok (.iload_n 1, 1) := by decide +kernel
theorem dX12_two_32 : decode cX12_two 32 = .ok (.iconst 2, 1) := by decide +kernel
theorem dX12_two_33 : decode cX12_two 33 = .ok (.if_icmp .ne 11, 3) := by decide +kernel
theorem dX12_two_36 : decode cX12_two 36 = .ok (.aload_n 0, 1) := by decide +kernel
theorem dX12_two_37 : decode cX12_two 37 = .ok (.getfield 57, 3) := by decide +kernel
theorem dX12_two_40 : decode cX12_two 40 = .ok (.getfield 304, 3) := by decide +kernel
theorem dX12_two_43 : decode cX12_two 43 = .ok (.ireturn, 1) := by decide +kernel
theorem dX12_two_44 : decode cX12_two 44 = .ok (.iload_n 1, 1) := by decide +kernel
theorem dX12_two_45 : decode cX12_two 45 = .ok (.ifCond .ne 13, 3) := by decide +kernel
theorem dX12_two_48 : decode cX12_two 48 = .ok (.aload_n 0, 1) := by decide +kernel
theorem dX12_two_49 : decode cX12_two 49 = .ok (.getfield 57, 3) := by decide +kernel
theorem dX12_two_52 : decode cX12_two 52 = .ok (.getfield 307, 3) := by decide +kernel
theorem dX12_two_55 : decode cX12_two 55 = .ok (.goto 10, 3) := by decide +kernel
theorem dX12_two_58 : decode cX12_two 58 = .ok (.aload_n 0, 1) := by decide +kernel
theorem dX12_two_59 : decode cX12_two 59 = .ok (.getfield 57, 3) := by decide +kernel
theorem dX12_two_62 : decode cX12_two 62 = .ok (.getfield 310, 3) := by decide +kernel
theorem dX12_two_65 : decode cX12_two 65 = .ok (.ireturn, 1) := by decide +kernel
theorem dX12_would_0 : decode cX12_would 0 = .ok (.iload_n 1, 1) := by decide +kernel
theorem dX12_would_1 : decode cX12_would 1 = .ok (.invokestatic 313, 3) := by decide +kernel
theorem dX12_would_4 : decode cX12_would 4 = .ok (.ifCond .eq 10, 3) := by decide +kernel
theorem dX12_would_7 : decode cX12_would 7 = .ok (.iload_n 2, 1) := by decide +kernel
theorem dX12_would_8 : decode cX12_would 8 = .ok (.invokestatic 313, 3) := by decide +kernel
theorem dX12_would_11 : decode cX12_would 11 = .ok (.ifCond .ne 6, 3) := by decide +kernel
theorem dX12_would_14 : decode cX12_would 14 = .ok (.bipush (-2), 2) := by decide +kernel
theorem dX12_would_16 : decode cX12_would 16 = .ok (.ireturn, 1) := by decide +kernel
theorem dX12_would_17 : decode cX12_would 17 = .ok (.aload_n 0, 1) := by decide +kernel
theorem dX12_would_18 : decode cX12_would 18 = .ok (.invokevirtual 151, 3) := by decide +kernel
theorem dX12_would_21 : decode cX12_would 21 = .ok (.aload_n 0, 1) := by decide +kernel
theorem dX12_would_22 : decode cX12_would 22 = .ok (.getfield 40, 3) := by decide +kernel
theorem dX12_would_25 : decode cX12_would 25 = .ok (.aload_n 0, 1) := by decide +kernel
theorem dX12_would_26 : decode cX12_would 26 = .ok (.getfield 40, 3) := by decide +kernel
theorem dX12_would_29 : decode cX12_would 29 = .ok (.iload_n 1, 1) := by decide +kernel
theorem dX12_would_30 : decode cX12_would 30 = .ok (.iload_n 2, 1) := by decide +kernel
theorem dX12_would_31 : decode cX12_would 31 = .ok (.invokevirtual 284, 3) := by decide +kernel
theorem dX12_would_34 : decode cX12_would 34 = .ok (.invokevirtual 288, 3) := by decide +kernel
theorem dX12_would_37 : decode cX12_would 37 = .ok (.ireturn, 1) := by decide +kernel
theorem dX12_limit_0 : decode cX12_limit 0 = .ok (.iload_n 1, 1) := by decide +kernel
theorem dX12_limit_1 : decode cX12_limit 1 = .ok (.ifCond .lt 10, 3) := by decide +kernel
theorem dX12_limit_4 : decode cX12_limit 4 = .ok (.iload_n 1, 1) := by decide +kernel
theorem dX12_limit_5 : decode cX12_limit 5 = .ok (.sipush 1000, 3) := by decide +kernel
theorem dX12_limit_8 : decode cX12_limit 8 = .ok (.if_icmp .le 6, 3) := by decide +kernel
theorem dX12_limit_11 : decode cX12_limit 11 = .ok (.bipush (-2), 2) := by decide +kernel
theorem dX12_limit_13 : decode cX12_limit 13 = .ok (.ireturn, 1) := by decide +kernel
theorem dX12_limit_14 : decode cX12_limit 14 = .ok (.aload_n 0, 1) := by decide +kernel
theorem dX12_limit_15 : decode cX12_limit 15 = .ok (.invokevirtual 151, 3) := by decide +kernel
theorem dX12_limit_18 : decode cX12_limit 18 = .ok (.aload_n 0, 1) := by decide +kernel
theorem dX12_limit_19 : decode cX12_limit 19 = .ok (.getfield 40, 3) := by decide +kernel
theorem dX12_limit_22 : decode cX12_limit 22 = .ok (.iload_n 1, 1) := by decide +kernel
theorem dX12_limit_23 : decode cX12_limit 23 = .ok (.invokevirtual 316, 3) := by decide +kernel
theorem dX12_limit_26 : decode cX12_limit 26 = .ok (.ireturn, 1) := by decide +kernel
theorem dX12_accepts_0 : decode cX12_accepts 0 = .ok (.iload_n 1, 1) := by decide +kernel
theorem dX12_accepts_1 : decode cX12_accepts 1 = .ok (.ifCond .lt 10, 3) := by decide +kernel
theorem dX12_accepts_4 : decode cX12_accepts 4 = .ok (.iload_n 1, 1) := by decide +kernel
theorem dX12_accepts_5 : decode cX12_accepts 5 = .ok (.sipush 1000, 3) := by decide +kernel
theorem dX12_accepts_8 : decode cX12_accepts 8 = .ok (.if_icmp .le 6, 3) := by decide +kernel
theorem dX12_accepts_11 : decode cX12_accepts 11 = .ok (.bipush (-2), 2) := by decide +kernel
theorem dX12_accepts_13 : decode cX12_accepts 13 = .ok (.ireturn, 1) := by decide +kernel
theorem dX12_accepts_14 : decode cX12_accepts 14 = .ok (.aload_n 0, 1) := by decide +kernel
theorem dX12_accepts_15 : decode cX12_accepts 15 = .ok (.invokevirtual 151, 3) := by decide +kernel
theorem dX12_accepts_18 : decode cX12_accepts 18 = .ok (.aload_n 0, 1) := by decide +kernel
theorem dX12_accepts_19 : decode cX12_accepts 19 = .ok (.getfield 40, 3) := by decide +kernel
theorem dX12_accepts_22 : decode cX12_accepts 22 = .ok (.iload_n 1, 1) := by decide +kernel
theorem dX12_accepts_23 : decode cX12_accepts 23 = .ok (.invokevirtual 319, 3) := by decide +kernel
theorem dX12_accepts_26 : decode cX12_accepts 26 = .ok (.ireturn, 1) := by decide +kernel
theorem dX12_capture_0 : decode cX12_capture 0 = .ok (.iload_n 1, 1) := by decide +kernel
theorem dX12_capture_1 : decode cX12_capture 1 = .ok (.ifCond .lt 10, 3) := by decide +kernel
theorem dX12_capture_4 : decode cX12_capture 4 = .ok (.iload_n 1, 1) := by decide +kernel
theorem dX12_capture_5 : decode cX12_capture 5 = .ok (.sipush 1000, 3) := by decide +kernel
theorem dX12_capture_8 : decode cX12_capture 8 = .ok (.if_icmp .le 6, 3) := by decide +kernel
theorem dX12_capture_11 : decode cX12_capture 11 = .ok (.bipush (-2), 2) := by decide +kernel
theorem dX12_capture_13 : decode cX12_capture 13 = .ok (.ireturn, 1) := by decide +kernel
theorem dX12_capture_14 : decode cX12_capture 14 = .ok (.aload_n 0, 1) := by decide +kernel
theorem dX12_capture_15 : decode cX12_capture 15 = .ok (.invokevirtual 151, 3) := by decide +kernel
theorem dX12_capture_18 : decode cX12_capture 18 = .ok (.aload_n 0, 1) := by decide +kernel
theorem dX12_capture_19 : decode cX12_capture 19 = .ok (.getfield 40, 3) := by decide +kernel
theorem dX12_capture_22 : decode cX12_capture 22 = .ok (.iload_n 1, 1) := by decide +kernel
theorem dX12_capture_23 : decode cX12_capture 23 = .ok (.invokevirtual 322, 3) := by decide +kernel
theorem dX12_capture_26 : decode cX12_capture 26 = .ok (.ireturn, 1) := by decide +kernel
theorem dX12_drift_0 : decode cX12_drift 0 = .ok (.aload_n 0, 1) := by decide +kernel
theorem dX12_drift_1 : decode cX12_drift 1 = .ok (.invokevirtual 151, 3) := by decide +kernel
theorem dX12_drift_4 : decode cX12_drift 4 = .ok (.iload_n 1, 1) := by decide +kernel
theorem dX12_drift_5 : decode cX12_drift 5 = .ok (.ifCond .lt 28, 3) := by decide +kernel
theorem dX12_drift_8 : decode cX12_drift 8 = .ok (.iload_n 1, 1) := by decide +kernel
theorem dX12_drift_9 : decode cX12_drift 9 = .ok (.iconst 2, 1) := by decide +kernel
theorem dX12_drift_10 : decode cX12_drift 10 = .ok (.if_icmp .gt 23, 3) := by decide +kernel
theorem dX12_drift_13 : decode cX12_drift 13 = .ok (.aload_n 0, 1) := by decide +kernel
theorem dX12_drift_14 : decode cX12_drift 14 = .ok (.getfield 40, 3) := by decide +kernel
theorem dX12_drift_17 : decode cX12_drift 17 = .ok (.getfield 154, 3) := by decide +kernel
theorem dX12_drift_20 : decode cX12_drift 20 = .ok (.ifCond .eq 13, 3) := by decide +kernel
theorem dX12_drift_23 : decode cX12_drift 23 = .ok (.aload_n 0, 1) := by decide +kernel
theorem dX12_drift_24 : decode cX12_drift 24 = .ok (.getfield 109, 3) := by decide +kernel
theorem dX12_drift_27 : decode cX12_drift 27 = .ok (.getfield 145, 3) := by decide +kernel
theorem dX12_drift_30 : decode cX12_drift 30 = .ok (.ifCond .ne 7, 3) := by decide +kernel
theorem dX12_drift_33 : decode cX12_drift 33 = .ok (.ldc2_w 225, 3) := by decide +kernel
theorem dX12_drift_36 : decode cX12_drift 36 = .ok (.lreturn, 1) := by decide +kernel
theorem dX12_drift_37 : decode cX12_drift 37 = .ok (.iload_n 1, 1) := by decide +kernel
theorem dX12_drift_38 : decode cX12_drift 38 = .ok (.iconst 2, 1) := by decide +kernel
theorem dX12_drift_39 : decode cX12_drift 39 = .ok (.if_icmp .ne 13, 3) := by decide +kernel
theorem dX12_drift_42 : decode cX12_drift 42 = .ok (.aload_n 0, 1) := by decide +kernel
theorem dX12_drift_43 : decode cX12_drift 43 = .ok (.aload_n 0, 1) := by decide +kernel
theorem dX12_drift_44 : decode cX12_drift 44 = .ok (.getfield 109, 3) := by decide +kernel
theorem dX12_drift_47 : decode cX12_drift 47 = .ok (.invokevirtual 325, 3) := by decide +kernel
theorem dX12_drift_50 : decode cX12_drift 50 = .ok (.i2l, 1) := by decide +kernel
theorem dX12_drift_51 : decode cX12_drift 51 = .ok (.lreturn, 1) := by decide +kernel
theorem dX12_drift_52 : decode cX12_drift 52 = .ok (.aload_n 0, 1) := by decide +kernel
theorem dX12_drift_53 : decode cX12_drift 53 = .ok (.aload_n 0, 1) := by decide +kernel
theorem dX12_drift_54 : decode cX12_drift 54 = .ok (.getfield 109, 3) := by decide +kernel
theorem dX12_drift_57 : decode cX12_drift 57 = .ok (.invokevirtual 329, 3) := by decide +kernel
theorem dX12_drift_60 : decode cX12_drift 60 = .ok (.aload_n 0, 1) := by decide +kernel
theorem dX12_drift_61 : decode cX12_drift 61 = .ok (.aload_n 0, 1) := by decide +kernel
theorem dX12_drift_62 : decode cX12_drift 62 = .ok (.getfield 109, 3) := by decide +kernel
theorem dX12_drift_65 : decode cX12_drift 65 = .ok (.invokevirtual 333, 3) := by decide +kernel
theorem dX12_drift_68 : decode cX12_drift 68 = .ok (.iload_n 1, 1) := by decide +kernel
theorem dX12_drift_69 : decode cX12_drift 69 = .ok (.invokestatic 209, 3) := by decide +kernel
theorem dX12_drift_72 : decode cX12_drift 72 = .ok (.lreturn, 1) := by decide +kernel
theorem dX12_chi_0 : decode cX12_chi 0 = .ok (.aload_n 0, 1) := by decide +kernel
theorem dX12_chi_1 : decode cX12_chi 1 = .ok (.invokevirtual 151, 3) := by decide +kernel
theorem dX12_chi_4 : decode cX12_chi 4 = .ok (.aload_n 0, 1) := by decide +kernel
theorem dX12_chi_5 : decode cX12_chi 5 = .ok (.getfield 40, 3) := by decide +kernel
theorem dX12_chi_8 : decode cX12_chi 8 = .ok (.getfield 154, 3) := by decide +kernel
theorem dX12_chi_11 : decode cX12_chi 11 = .ok (.ifCond .eq 13, 3) := by decide +kernel
theorem dX12_chi_14 : decode cX12_chi 14 = .ok (.aload_n 0, 1) := by decide +kernel
theorem dX12_chi_15 : decode cX12_chi 15 = .ok (.getfield 109, 3) := by decide +kernel
theorem dX12_chi_18 : decode cX12_chi 18 = .ok (.getfield 145, 3) := by decide +kernel
theorem dX12_chi_21 : decode cX12_chi 21 = .ok (.ifCond .ne 7, 3) := by decide +kernel
theorem dX12_chi_24 : decode cX12_chi 24 = .ok (.ldc2_w 225, 3) := by decide +kernel
theorem dX12_chi_27 : decode cX12_chi 27 = .ok (.lreturn, 1) := by decide +kernel
theorem dX12_chi_28 : decode cX12_chi 28 = .ok (.aload_n 0, 1) := by decide +kernel
theorem dX12_chi_29 : decode cX12_chi 29 = .ok (.aload_n 0, 1) := by decide +kernel
theorem dX12_chi_30 : decode cX12_chi 30 = .ok (.getfield 109, 3) := by decide +kernel
theorem dX12_chi_33 : decode cX12_chi 33 = .ok (.invokevirtual 336, 3) := by decide +kernel
theorem dX12_chi_36 : decode cX12_chi 36 = .ok (.dconst 0, 1) := by decide +kernel
theorem dX12_chi_37 : decode cX12_chi 37 = .ok (.dstore_n 1, 1) := by decide +kernel
theorem dX12_chi_38 : decode cX12_chi 38 = .ok (.iconst 0, 1) := by decide +kernel
theorem dX12_chi_39 : decode cX12_chi 39 = .ok (.istore_n 3, 1) := by decide +kernel
theorem dX12_chi_40 : decode cX12_chi 40 = .ok (.iload_n 3, 1) := by decide +kernel
theorem dX12_chi_41 : decode cX12_chi 41 = .ok (.aload_n 0, 1) := by decide +kernel
theorem dX12_chi_42 : decode cX12_chi 42 = .ok (.getfield 51, 3) := by decide +kernel
theorem dX12_chi_45 : decode cX12_chi 45 = .ok (.getfield 162, 3) := by decide +kernel
theorem dX12_chi_48 : decode cX12_chi 48 = .ok (.if_icmp .ge 73, 3) := by decide +kernel
theorem dX12_chi_51 : decode cX12_chi 51 = .ok (.aload_n 0, 1) := by decide +kernel
theorem dX12_chi_52 : decode cX12_chi 52 = .ok (.getfield 101, 3) := by decide +kernel
theorem dX12_chi_55 : decode cX12_chi 55 = .ok (.iload_n 3, 1) := by decide +kernel
theorem dX12_chi_56 : decode cX12_chi 56 = .ok (.iaload, 1) := by decide +kernel
theorem dX12_chi_57 : decode cX12_chi 57 = .ok (.i2d, 1) := by decide +kernel
theorem dX12_chi_58 : decode cX12_chi 58 = .ok (.dstore 4, 2) := by decide +kernel
theorem dX12_chi_60 : decode cX12_chi 60 = .ok (.aload_n 0, 1) := by decide +kernel
theorem dX12_chi_61 : decode cX12_chi 61 = .ok (.getfield 51, 3) := by decide +kernel
theorem dX12_chi_64 : decode cX12_chi 64 = .ok (.iload_n 3, 1) := by decide +kernel
theorem dX12_chi_65 : decode cX12_chi 65 = .ok (.invokevirtual 206, 3) := by decide +kernel
theorem dX12_chi_68 : decode cX12_chi 68 = .ok (.i2l, 1) := by decide +kernel
theorem dX12_chi_69 : decode cX12_chi 69 = .ok (.aload_n 0, 1) := by decide +kernel
theorem dX12_chi_70 : decode cX12_chi 70 = .ok (.getfield 109, 3) := by decide +kernel
theorem dX12_chi_73 : decode cX12_chi 73 = .ok (.getfield 145, 3) := by decide +kernel
theorem dX12_chi_76 : decode cX12_chi 76 = .ok (.i2l, 1) := by decide +kernel
theorem dX12_chi_77 : decode cX12_chi 77 = .ok (.lmul, 1) := by decide +kernel
theorem dX12_chi_78 : decode cX12_chi 78 = .ok (.aload_n 0, 1) := by decide +kernel
theorem dX12_chi_79 : decode cX12_chi 79 = .ok (.getfield 40, 3) := by decide +kernel
theorem dX12_chi_82 : decode cX12_chi 82 = .ok (.invokevirtual 340, 3) := by decide +kernel
theorem dX12_chi_85 : decode cX12_chi 85 = .ok (.i2l, 1) := by decide +kernel
theorem dX12_chi_86 : decode cX12_chi 86 = .ok (.invokestatic 227, 3) := by decide +kernel
theorem dX12_chi_89 : decode cX12_chi 89 = .ok (.dstore 6, 2) := by decide +kernel
theorem dX12_chi_91 : decode cX12_chi 91 = .ok (.dload 6, 2) := by decide +kernel
theorem dX12_chi_93 : decode cX12_chi 93 = .ok (.dconst 0, 1) := by decide +kernel
theorem dX12_chi_94 : decode cX12_chi 94 = .ok (.dcmp .l, 1) := by decide +kernel
theorem dX12_chi_95 : decode cX12_chi 95 = .ok (.ifCond .le 20, 3) := by decide +kernel
theorem dX12_chi_98 : decode cX12_chi 98 = .ok (.dload_n 1, 1) := by decide +kernel
theorem dX12_chi_99 : decode cX12_chi 99 = .ok (.dload 4, 2) := by decide +kernel
theorem dX12_chi_101 : decode cX12_chi 101 = .ok (.dload 6, 2) := by decide +kernel
theorem dX12_chi_103 : decode cX12_chi 103 = .ok (.dsub, 1) := by decide +kernel
theorem dX12_chi_104 : decode cX12_chi 104 = .ok (.dload 4, 2) := by decide +kernel
theorem dX12_chi_106 : decode cX12_chi 106 = .ok (.dload 6, 2) := by decide +kernel
theorem dX12_chi_108 : decode cX12_chi 108 = .ok (.dsub, 1) := by decide +kernel
theorem dX12_chi_109 : decode cX12_chi 109 = .ok (.dmul, 1) := by decide +kernel
theorem dX12_chi_110 : decode cX12_chi 110 = .ok (.dload 6, 2) := by decide +kernel
theorem dX12_chi_112 : decode cX12_chi 112 = .ok (.ddiv, 1) := by decide +kernel
theorem dX12_chi_113 : decode cX12_chi 113 = .ok (.dadd, 1) := by decide +kernel
theorem dX12_chi_114 : decode cX12_chi 114 = .ok (.dstore_n 1, 1) := by decide +kernel
theorem dX12_chi_115 : decode cX12_chi 115 = .ok (.iinc 3 1, 3) := by decide +kernel
theorem dX12_chi_118 : decode cX12_chi 118 = .ok (.goto (-78), 3) := by decide +kernel
theorem dX12_chi_121 : decode cX12_chi 121 = .ok (.dload_n 1, 1) := by decide +kernel
theorem dX12_chi_122 : decode cX12_chi 122 = .ok (.invokestatic 233, 3) := by decide +kernel
theorem dX12_chi_125 : decode cX12_chi 125 = .ok (.lreturn, 1) := by decide +kernel
theorem dX12_mean_0 : decode cX12_mean 0 = .ok (.aload_n 0, 1) := by decide +kernel
theorem dX12_mean_1 : decode cX12_mean 1 = .ok (.invokevirtual 151, 3) := by decide +kernel
theorem dX12_mean_4 : decode cX12_mean 4 = .ok (.iload_n 1, 1) := by decide +kernel
theorem dX12_mean_5 : decode cX12_mean 5 = .ok (.tableswitch 109 0 3 #[31, 51, 71, 91], 31) := by decide +kernel
theorem dX12_mean_36 : decode cX12_mean 36 = .ok (.aload_n 0, 1) := by decide +kernel
theorem dX12_mean_37 : decode cX12_mean 37 = .ok (.getfield 40, 3) := by decide +kernel
theorem dX12_mean_40 : decode cX12_mean 40 = .ok (.iconst 1, 1) := by decide +kernel
theorem dX12_mean_41 : decode cX12_mean 41 = .ok (.iconst 0, 1) := by decide +kernel
theorem dX12_mean_42 : decode cX12_mean 42 = .ok (.invokevirtual 342, 3) := by decide +kernel
theorem dX12_mean_45 : decode cX12_mean 45 = .ok (.aload_n 0, 1) := by decide +kernel
theorem dX12_mean_46 : decode cX12_mean 46 = .ok (.getfield 40, 3) := by decide +kernel
theorem dX12_mean_49 : decode cX12_mean 49 = .ok (.invokevirtual 155, 3) := by decide +kernel
theorem dX12_mean_52 : decode cX12_mean 52 = .ok (.invokestatic 345, 3) := by decide +kernel
theorem dX12_mean_55 : decode cX12_mean 55 = .ok (.lreturn, 1) := by decide +kernel
theorem dX12_mean_56 : decode cX12_mean 56 = .ok (.aload_n 0, 1) := by decide +kernel
theorem dX12_mean_57 : decode cX12_mean 57 = .ok (.getfield 40, 3) := by decide +kernel
theorem dX12_mean_60 : decode cX12_mean 60 = .ok (.iconst 0, 1) := by decide +kernel
theorem dX12_mean_61 : decode cX12_mean 61 = .ok (.iconst 1, 1) := by decide +kernel
theorem dX12_mean_62 : decode cX12_mean 62 = .ok (.invokevirtual 342, 3) := by decide +kernel
theorem dX12_mean_65 : decode cX12_mean 65 = .ok (.aload_n 0, 1) := by decide +kernel
theorem dX12_mean_66 : decode cX12_mean 66 = .ok (.getfield 40, 3) := by decide +kernel
theorem dX12_mean_69 : decode cX12_mean 69 = .ok (.invokevirtual 159, 3) := by decide +kernel
theorem dX12_mean_72 : decode cX12_mean 72 = .ok (.invokestatic 345, 3) := by decide +kernel
theorem dX12_mean_75 : decode cX12_mean 75 = .ok (.lreturn, 1) := by decide +kernel
theorem dX12_mean_76 : decode cX12_mean 76 = .ok (.aload_n 0, 1) := by decide +kernel
theorem dX12_mean_77 : decode cX12_mean 77 = .ok (.getfield 40, 3) := by decide +kernel
theorem dX12_mean_80 : decode cX12_mean 80 = .ok (.iconst 1, 1) := by decide +kernel
theorem dX12_mean_81 : decode cX12_mean 81 = .ok (.iconst 1, 1) := by decide +kernel
theorem dX12_mean_82 : decode cX12_mean 82 = .ok (.invokevirtual 342, 3) := by decide +kernel
theorem dX12_mean_85 : decode cX12_mean 85 = .ok (.aload_n 0, 1) := by decide +kernel
theorem dX12_mean_86 : decode cX12_mean 86 = .ok (.getfield 40, 3) := by decide +kernel
theorem dX12_mean_89 : decode cX12_mean 89 = .ok (.invokevirtual 340, 3) := by decide +kernel
theorem dX12_mean_92 : decode cX12_mean 92 = .ok (.invokestatic 345, 3) := by decide +kernel
theorem dX12_mean_95 : decode cX12_mean 95 = .ok (.lreturn, 1) := by decide +kernel
theorem dX12_mean_96 : decode cX12_mean 96 = .ok (.aload_n 0, 1) := by decide +kernel
theorem dX12_mean_97 : decode cX12_mean 97 = .ok (.getfield 109, 3) := by decide +kernel
theorem dX12_mean_100 : decode cX12_mean 100 = .ok (.invokevirtual 349, 3) := by decide +kernel
theorem dX12_mean_103 : decode cX12_mean 103 = .ok (.aload_n 0, 1) := by decide +kernel
theorem dX12_mean_104 : decode cX12_mean 104 = .ok (.getfield 109, 3) := by decide +kernel
theorem dX12_mean_107 : decode cX12_mean 107 = .ok (.getfield 145, 3) := by decide +kernel
theorem dX12_mean_110 : decode cX12_mean 110 = .ok (.invokestatic 345, 3) := by decide +kernel
theorem dX12_mean_113 : decode cX12_mean 113 = .ok (.lreturn, 1) := by decide +kernel
theorem dX12_mean_114 : decode cX12_mean 114 = .ok (.ldc2_w 225, 3) := by decide +kernel
theorem dX12_mean_117 : decode cX12_mean 117 = .ok (.lreturn, 1) := by decide +kernel
theorem dX12_median_0 : decode cX12_median 0 = .ok (.aload_n 0, 1) := by decide +kernel
theorem dX12_median_1 : decode cX12_median 1 = .ok (.invokevirtual 151, 3) := by decide +kernel
theorem dX12_median_4 : decode cX12_median 4 = .ok (.aload_n 0, 1) := by decide +kernel
theorem dX12_median_5 : decode cX12_median 5 = .ok (.getfield 40, 3) := by decide +kernel
theorem dX12_median_8 : decode cX12_median 8 = .ok (.getfield 154, 3) := by decide +kernel
theorem dX12_median_11 : decode cX12_median 11 = .ok (.ifCond .ne 5, 3) := by decide +kernel
theorem dX12_median_14 : decode cX12_median 14 = .ok (.iconst (-1), 1) := by decide +kernel
theorem dX12_median_15 : decode cX12_median 15 = .ok (.ireturn, 1) := by decide +kernel
theorem dX12_median_16 : decode cX12_median 16 = .ok (.aload_n 0, 1) := by decide +kernel
theorem dX12_median_17 : decode cX12_median 17 = .ok (.getfield 40, 3) := by decide +kernel
theorem dX12_median_20 : decode cX12_median 20 = .ok (.getfield 184, 3) := by decide +kernel
theorem dX12_median_23 : decode cX12_median 23 = .ok (.aload_n 0, 1) := by decide +kernel
theorem dX12_median_24 : decode cX12_median 24 = .ok (.getfield 40, 3) := by decide +kernel
theorem dX12_median_27 : decode cX12_median 27 = .ok (.aload_n 0, 1) := by decide +kernel
theorem dX12_median_28 : decode cX12_median 28 = .ok (.getfield 40, 3) := by decide +kernel
theorem dX12_median_31 : decode cX12_median 31 = .ok (.invokevirtual 340, 3) := by decide +kernel
theorem dX12_median_34 : decode cX12_median 34 = .ok (.iconst 2, 1) := by decide +kernel
theorem dX12_median_35 : decode cX12_median 35 = .ok (.idiv, 1) := by decide +kernel
theorem dX12_median_36 : decode cX12_median 36 = .ok (.invokevirtual 351, 3) := by decide +kernel
theorem dX12_median_39 : decode cX12_median 39 = .ok (.iaload, 1) := by decide +kernel
theorem dX12_median_40 : decode cX12_median 40 = .ok (.ireturn, 1) := by decide +kernel
theorem dX12_resample_0 : decode cX12_resample 0 = .ok (.aload_n 0, 1) := by decide +kernel
theorem dX12_resample_1 : decode cX12_resample 1 = .ok (.invokevirtual 151, 3) := by decide +kernel
theorem dX12_resample_4 : decode cX12_resample 4 = .ok (.iload_n 3, 1) := by decide +kernel
theorem dX12_resample_5 : decode cX12_resample 5 = .ok (.ifCond .lt 18, 3) := by decide +kernel
theorem dX12_resample_8 : decode cX12_resample 8 = .ok (.iload_n 3, 1) := by decide +kernel
theorem dX12_resample_9 : decode cX12_resample 9 = .ok (.iconst 2, 1) := by decide +kernel
theorem dX12_resample_10 : decode cX12_resample 10 = .ok (.if_icmp .gt 13, 3) := by decide +kernel
theorem dX12_resample_13 : decode cX12_resample 13 = .ok (.aload_n 0, 1) := by decide +kernel
theorem dX12_resample_14 : decode cX12_resample 14 = .ok (.getfield 40, 3) := by decide +kernel
theorem dX12_resample_17 : decode cX12_resample 17 = .ok (.getfield 154, 3) := by decide +kernel
theorem dX12_resample_20 : decode cX12_resample 20 = .ok (.ifCond .ne 7, 3) := by decide +kernel
theorem dX12_resample_23 : decode cX12_resample 23 = .ok (.ldc2_w 225, 3) := by decide +kernel
theorem dX12_resample_26 : decode cX12_resample 26 = .ok (.lreturn, 1) := by decide +kernel
theorem dX12_resample_27 : decode cX12_resample 27 = .ok (.aload_n 0, 1) := by decide +kernel
theorem dX12_resample_28 : decode cX12_resample 28 = .ok (.getfield 61, 3) := by decide +kernel
theorem dX12_resample_31 : decode cX12_resample 31 = .ok (.aload_n 0, 1) := by decide +kernel
theorem dX12_resample_32 : decode cX12_resample 32 = .ok (.getfield 40, 3) := by decide +kernel
theorem dX12_resample_35 : decode cX12_resample 35 = .ok (.lload_n 1, 1) := by decide +kernel
theorem dX12_resample_36 : decode cX12_resample 36 = .ok (.invokevirtual 354, 3) := by decide +kernel
theorem dX12_resample_39 : decode cX12_resample 39 = .ok (.iload_n 3, 1) := by decide +kernel
theorem dX12_resample_40 : decode cX12_resample 40 = .ok (.ifCond .ne 12, 3) := by decide +kernel
theorem dX12_resample_43 : decode cX12_resample 43 = .ok (.aload_n 0, 1) := by decide +kernel
theorem dX12_resample_44 : decode cX12_resample 44 = .ok (.getfield 61, 3) := by decide +kernel
theorem dX12_resample_47 : decode cX12_resample 47 = .ok (.invokevirtual 159, 3) := by decide +kernel
theorem dX12_resample_50 : decode cX12_resample 50 = .ok (.i2l, 1) := by decide +kernel
theorem dX12_resample_51 : decode cX12_resample 51 = .ok (.lreturn, 1) := by decide +kernel
theorem dX12_resample_52 : decode cX12_resample 52 = .ok (.iload_n 3, 1) := by decide +kernel
theorem dX12_resample_53 : decode cX12_resample 53 = .ok (.iconst 1, 1) := by decide +kernel
theorem dX12_resample_54 : decode cX12_resample 54 = .ok (.if_icmp .ne 33, 3) := by decide +kernel
theorem dX12_resample_57 : decode cX12_resample 57 = .ok (.aload_n 0, 1) := by decide +kernel
theorem dX12_resample_58 : decode cX12_resample 58 = .ok (.getfield 61, 3) := by decide +kernel
theorem dX12_resample_61 : decode cX12_resample 61 = .ok (.aload_n 0, 1) := by decide +kernel
theorem dX12_resample_62 : decode cX12_resample 62 = .ok (.getfield 61, 3) := by decide +kernel
theorem dX12_resample_65 : decode cX12_resample 65 = .ok (.aload_n 0, 1) := by decide +kernel
theorem dX12_resample_66 : decode cX12_resample 66 = .ok (.getfield 33, 3) := by decide +kernel
theorem dX12_resample_69 : decode cX12_resample 69 = .ok (.getfield 169, 3) := by decide +kernel
theorem dX12_resample_72 : decode cX12_resample 72 = .ok (.aload_n 0, 1) := by decide +kernel
theorem dX12_resample_73 : decode cX12_resample 73 = .ok (.getfield 33, 3) := by decide +kernel
theorem dX12_resample_76 : decode cX12_resample 76 = .ok (.getfield 172, 3) := by decide +kernel
theorem dX12_resample_79 : decode cX12_resample 79 = .ok (.invokevirtual 284, 3) := by decide +kernel
theorem dX12_resample_82 : decode cX12_resample 82 = .ok (.invokevirtual 288, 3) := by decide +kernel
theorem dX12_resample_85 : decode cX12_resample 85 = .ok (.i2l, 1) := by decide +kernel
theorem dX12_resample_86 : decode cX12_resample 86 = .ok (.lreturn, 1) := by decide +kernel
theorem dX12_resample_87 : decode cX12_resample 87 = .ok (.aload_n 0, 1) := by decide +kernel
theorem dX12_resample_88 : decode cX12_resample 88 = .ok (.getfield 64, 3) := by decide +kernel
theorem dX12_resample_91 : decode cX12_resample 91 = .ok (.aload_n 0, 1) := by decide +kernel
theorem dX12_resample_92 : decode cX12_resample 92 = .ok (.getfield 61, 3) := by decide +kernel
theorem dX12_resample_95 : decode cX12_resample 95 = .ok (.invokevirtual 358, 3) := by decide +kernel
theorem dX12_resample_98 : decode cX12_resample 98 = .ok (.aload_n 0, 1) := by decide +kernel
theorem dX12_resample_99 : decode cX12_resample 99 = .ok (.getfield 64, 3) := by decide +kernel
theorem dX12_resample_102 : decode cX12_resample 102 = .ok (.getfield 162, 3) := by decide +kernel
theorem dX12_resample_105 : decode cX12_resample 105 = .ok (.i2l, 1) := by decide +kernel
theorem dX12_resample_106 : decode cX12_resample 106 = .ok (.lreturn, 1) := by decide +kernel
theorem dX12_inversions_0 : decode cX12_inversions 0 = .ok (.aload_n 0, 1) := by decide +kernel
theorem dX12_inversions_1 : decode cX12_inversions 1 = .ok (.invokevirtual 151, 3) := by decide +kernel
theorem dX12_inversions_4 : decode cX12_inversions 4 = .ok (.iconst 0, 1) := by decide +kernel
theorem dX12_inversions_5 : decode cX12_inversions 5 = .ok (.istore_n 1, 1) := by decide +kernel
theorem dX12_inversions_6 : decode cX12_inversions 6 = .ok (.iconst 1, 1) := by decide +kernel
theorem dX12_inversions_7 : decode cX12_inversions 7 = .ok (.istore_n 2, 1) := by decide +kernel
theorem dX12_inversions_8 : decode cX12_inversions 8 = .ok (.iload_n 2, 1) := by decide +kernel
theorem dX12_inversions_9 : decode cX12_inversions 9 = .ok (.aload_n 0, 1) := by decide +kernel
theorem dX12_inversions_10 : decode cX12_inversions 10 = .ok (.getfield 40, 3) := by decide +kernel
theorem dX12_inversions_13 : decode cX12_inversions 13 = .ok (.getfield 154, 3) := by decide +kernel
theorem dX12_inversions_16 : decode cX12_inversions 16 = .ok (.if_icmp .ge 37, 3) := by decide +kernel
theorem dX12_inversions_19 : decode cX12_inversions 19 = .ok (.iconst 0, 1) := by decide +kernel
theorem dX12_inversions_20 : decode cX12_inversions 20 = .ok (.istore_n 3, 1) := by decide +kernel
theorem dX12_inversions_21 : decode cX12_inversions 21 = .ok (.iload_n 3, 1) := by decide +kernel
theorem dX12_inversions_22 : decode cX12_inversions 22 = .ok (.iload_n 2, 1) := by decide +kernel
theorem dX12_inversions_23 : decode cX12_inversions 23 = .ok (.if_icmp .ge 24, 3) := by decide +kernel
theorem dX12_inversions_26 : decode cX12_inversions 26 = .ok (.aload_n 0, 1) := by decide +kernel
theorem dX12_inversions_27 : decode cX12_inversions 27 = .ok (.getfield 40, 3) := by decide +kernel
theorem dX12_inversions_30 : decode cX12_inversions 30 = .ok (.iload_n 2, 1) := by decide +kernel
theorem dX12_inversions_31 : decode cX12_inversions 31 = .ok (.iload_n 3, 1) := by decide +kernel
theorem dX12_inversions_32 : decode cX12_inversions 32 = .ok (.invokevirtual 362, 3) := by decide +kernel
theorem dX12_inversions_35 : decode cX12_inversions 35 = .ok (.ifCond .eq 6, 3) := by decide +kernel
theorem dX12_inversions_38 : decode cX12_inversions 38 = .ok (.iinc 1 1, 3) := by decide +kernel
theorem dX12_inversions_41 : decode cX12_inversions 41 = .ok (.iinc 3 1, 3) := by decide +kernel
theorem dX12_inversions_44 : decode cX12_inversions 44 = .ok (.goto (-23), 3) := by decide +kernel
theorem dX12_inversions_47 : decode cX12_inversions 47 = .ok (.iinc 2 1, 3) := by decide +kernel
theorem dX12_inversions_50 : decode cX12_inversions 50 = .ok (.goto (-42), 3) := by decide +kernel
theorem dX12_inversions_53 : decode cX12_inversions 53 = .ok (.iload_n 1, 1) := by decide +kernel
theorem dX12_inversions_54 : decode cX12_inversions 54 = .ok (.ireturn, 1) := by decide +kernel
theorem dX12_between_0 : decode cX12_between 0 = .ok (.iload_n 1, 1) := by decide +kernel
theorem dX12_between_1 : decode cX12_between 1 = .ok (.invokestatic 274, 3) := by decide +kernel
theorem dX12_between_4 : decode cX12_between 4 = .ok (.ifCond .eq 15, 3) := by decide +kernel
theorem dX12_between_7 : decode cX12_between 7 = .ok (.iload_n 2, 1) := by decide +kernel
theorem dX12_between_8 : decode cX12_between 8 = .ok (.invokestatic 274, 3) := by decide +kernel
theorem dX12_between_11 : decode cX12_between 11 = .ok (.ifCond .eq 8, 3) := by decide +kernel
theorem dX12_between_14 : decode cX12_between 14 = .ok (.iload_n 1, 1) := by decide +kernel
theorem dX12_between_15 : decode cX12_between 15 = .ok (.iload_n 2, 1) := by decide +kernel
theorem dX12_between_16 : decode cX12_between 16 = .ok (.if_icmp .le 6, 3) := by decide +kernel
theorem dX12_between_19 : decode cX12_between 19 = .ok (.bipush (-2), 2) := by decide +kernel
theorem dX12_between_21 : decode cX12_between 21 = .ok (.ireturn, 1) := by decide +kernel
theorem dX12_between_22 : decode cX12_between 22 = .ok (.aload_n 0, 1) := by decide +kernel
theorem dX12_between_23 : decode cX12_between 23 = .ok (.invokevirtual 151, 3) := by decide +kernel
theorem dX12_between_26 : decode cX12_between 26 = .ok (.aload_n 0, 1) := by decide +kernel
theorem dX12_between_27 : decode cX12_between 27 = .ok (.getfield 40, 3) := by decide +kernel
theorem dX12_between_30 : decode cX12_between 30 = .ok (.iload_n 1, 1) := by decide +kernel
theorem dX12_between_31 : decode cX12_between 31 = .ok (.invokevirtual 277, 3) := by decide +kernel
theorem dX12_between_34 : decode cX12_between 34 = .ok (.istore 4, 2) := by decide +kernel
theorem dX12_between_36 : decode cX12_between 36 = .ok (.aload_n 0, 1) := by decide +kernel
theorem dX12_between_37 : decode cX12_between 37 = .ok (.getfield 40, 3) := by decide +kernel
theorem dX12_between_40 : decode cX12_between 40 = .ok (.iload_n 2, 1) := by decide +kernel
theorem dX12_between_41 : decode cX12_between 41 = .ok (.invokevirtual 277, 3) := by decide +kernel
theorem dX12_between_44 : decode cX12_between 44 = .ok (.istore 5, 2) := by decide +kernel
theorem dX12_between_46 : decode cX12_between 46 = .ok (.iload_n 3, 1) := by decide +kernel
theorem dX12_between_47 : decode cX12_between 47 = .ok (.tableswitch 75 0 2 #[25, 47, 69], 25) := by decide +kernel
theorem dX12_between_72 : decode cX12_between 72 = .ok (.aload_n 0, 1) := by decide +kernel
theorem dX12_between_73 : decode cX12_between 73 = .ok (.getfield 40, 3) := by decide +kernel
theorem dX12_between_76 : decode cX12_between 76 = .ok (.getfield 294, 3) := by decide +kernel
theorem dX12_between_79 : decode cX12_between 79 = .ok (.iload 5, 2) := by decide +kernel
theorem dX12_between_81 : decode cX12_between 81 = .ok (.iaload, 1) := by decide +kernel
theorem dX12_between_82 : decode cX12_between 82 = .ok (.aload_n 0, 1) := by decide +kernel
theorem dX12_between_83 : decode cX12_between 83 = .ok (.getfield 40, 3) := by decide +kernel
theorem dX12_between_86 : decode cX12_between 86 = .ok (.getfield 294, 3) := by decide +kernel
theorem dX12_between_89 : decode cX12_between 89 = .ok (.iload 4, 2) := by decide +kernel
theorem dX12_between_91 : decode cX12_between 91 = .ok (.iaload, 1) := by decide +kernel
theorem dX12_between_92 : decode cX12_between 92 = .ok (.isub, 1) := by decide +kernel
theorem dX12_between_93 : decode cX12_between 93 = .ok (.ireturn, 1) := by decide +kernel
theorem dX12_between_94 : decode cX12_between 94 = .ok (.aload_n 0, 1) := by decide +kernel
theorem dX12_between_95 : decode cX12_between 95 = .ok (.getfield 40, 3) := by decide +kernel
theorem dX12_between_98 : decode cX12_between 98 = .ok (.getfield 297, 3) := by decide +kernel
theorem dX12_between_101 : decode cX12_between 101 = .ok (.iload 5, 2) := by decide +kernel
theorem dX12_between_103 : decode cX12_between 103 = .ok (.iaload, 1) := by decide +kernel
theorem dX12_between_104 : decode cX12_between 104 = .ok (.aload_n 0, 1) := by decide +kernel
theorem dX12_between_105 : decode cX12_between 105 = .ok (.getfield 40, 3) := by decide +kernel
theorem dX12_between_108 : decode cX12_between 108 = .ok (.getfield 297, 3) := by decide +kernel
theorem dX12_between_111 : decode cX12_between 111 = .ok (.iload 4, 2) := by decide +kernel
theorem dX12_between_113 : decode cX12_between 113 = .ok (.iaload, 1) := by decide +kernel
theorem dX12_between_114 : decode cX12_between 114 = .ok (.isub, 1) := by decide +kernel
theorem dX12_between_115 : decode cX12_between 115 = .ok (.ireturn, 1) := by decide +kernel
theorem dX12_between_116 : decode cX12_between 116 = .ok (.iload 5, 2) := by decide +kernel
theorem dX12_between_118 : decode cX12_between 118 = .ok (.iload 4, 2) := by decide +kernel
theorem dX12_between_120 : decode cX12_between 120 = .ok (.isub, 1) := by decide +kernel
theorem dX12_between_121 : decode cX12_between 121 = .ok (.ireturn, 1) := by decide +kernel
theorem dX12_between_122 : decode cX12_between 122 = .ok (.bipush (-2), 2) := by decide +kernel
theorem dX12_between_124 : decode cX12_between 124 = .ok (.ireturn, 1) := by decide +kernel
theorem dX12_split_0 : decode cX12_split 0 = .ok (.aload_n 0, 1) := by decide +kernel
theorem dX12_split_1 : decode cX12_split 1 = .ok (.invokevirtual 151, 3) := by decide +kernel
theorem dX12_split_4 : decode cX12_split 4 = .ok (.iload_n 1, 1) := by decide +kernel
theorem dX12_split_5 : decode cX12_split 5 = .ok (.iconst 1, 1) := by decide +kernel
theorem dX12_split_6 : decode cX12_split 6 = .ok (.if_icmp .lt 14, 3) := by decide +kernel
theorem dX12_split_9 : decode cX12_split 9 = .ok (.iload_n 1, 1) := by decide +kernel
theorem dX12_split_10 : decode cX12_split 10 = .ok (.aload_n 0, 1) := by decide +kernel
theorem dX12_split_11 : decode cX12_split 11 = .ok (.getfield 40, 3) := by decide +kernel
theorem dX12_split_14 : decode cX12_split 14 = .ok (.getfield 154, 3) := by decide +kernel
theorem dX12_split_17 : decode cX12_split 17 = .ok (.if_icmp .le 7, 3) := by decide +kernel
theorem dX12_split_20 : decode cX12_split 20 = .ok (.ldc2_w 225, 3) := by decide +kernel
theorem dX12_split_23 : decode cX12_split 23 = .ok (.lreturn, 1) := by decide +kernel
theorem dX12_split_24 : decode cX12_split 24 = .ok (.aload_n 0, 1) := by decide +kernel
theorem dX12_split_25 : decode cX12_split 25 = .ok (.iload_n 1, 1) := by decide +kernel
theorem dX12_split_26 : decode cX12_split 26 = .ok (.invokevirtual 366, 3) := by decide +kernel
theorem dX12_split_29 : decode cX12_split 29 = .ok (.getfield 370, 3) := by decide +kernel
theorem dX12_split_32 : decode cX12_split 32 = .ok (.iload_n 1, 1) := by decide +kernel
theorem dX12_split_33 : decode cX12_split 33 = .ok (.daload, 1) := by decide +kernel
theorem dX12_split_34 : decode cX12_split 34 = .ok (.invokestatic 233, 3) := by decide +kernel
theorem dX12_split_37 : decode cX12_split 37 = .ok (.lreturn, 1) := by decide +kernel
theorem dX12_splitAt_0 : decode cX12_splitAt 0 = .ok (.aload_n 0, 1) := by decide +kernel
theorem dX12_splitAt_1 : decode cX12_splitAt 1 = .ok (.invokevirtual 151, 3) := by decide +kernel
theorem dX12_splitAt_4 : decode cX12_splitAt 4 = .ok (.iload_n 1, 1) := by decide +kernel
theorem dX12_splitAt_5 : decode cX12_splitAt 5 = .ok (.iconst 1, 1) := by decide +kernel
theorem dX12_splitAt_6 : decode cX12_splitAt 6 = .ok (.if_icmp .lt 23, 3) := by decide +kernel
theorem dX12_splitAt_9 : decode cX12_splitAt 9 = .ok (.iload_n 1, 1) := by decide +kernel
theorem dX12_splitAt_10 : decode cX12_splitAt 10 = .ok (.aload_n 0, 1) := by decide +kernel
theorem dX12_splitAt_11 : decode cX12_splitAt 11 = .ok (.getfield 40, 3) := by decide +kernel
theorem dX12_splitAt_14 : decode cX12_splitAt 14 = .ok (.getfield 154, 3) := by decide +kernel
theorem dX12_splitAt_17 : decode cX12_splitAt 17 = .ok (.if_icmp .gt 12, 3) := by decide +kernel
theorem dX12_splitAt_20 : decode cX12_splitAt 20 = .ok (.iload_n 2, 1) := by decide +kernel
theorem dX12_splitAt_21 : decode cX12_splitAt 21 = .ok (.ifCond .lt 8, 3) := by decide +kernel
theorem dX12_splitAt_24 : decode cX12_splitAt 24 = .ok (.iload_n 2, 1) := by decide +kernel
theorem dX12_splitAt_25 : decode cX12_splitAt 25 = .ok (.iload_n 1, 1) := by decide +kernel
theorem dX12_splitAt_26 : decode cX12_splitAt 26 = .ok (.if_icmp .lt 6, 3) := by decide +kernel
theorem dX12_splitAt_29 : decode cX12_splitAt 29 = .ok (.bipush (-2), 2) := by decide +kernel
theorem dX12_splitAt_31 : decode cX12_splitAt 31 = .ok (.ireturn, 1) := by decide +kernel
theorem dX12_splitAt_32 : decode cX12_splitAt 32 = .ok (.aload_n 0, 1) := by decide +kernel
theorem dX12_splitAt_33 : decode cX12_splitAt 33 = .ok (.getfield 40, 3) := by decide +kernel
theorem dX12_splitAt_36 : decode cX12_splitAt 36 = .ok (.getfield 184, 3) := by decide +kernel
theorem dX12_splitAt_39 : decode cX12_splitAt 39 = .ok (.aload_n 0, 1) := by decide +kernel
theorem dX12_splitAt_40 : decode cX12_splitAt 40 = .ok (.iload_n 1, 1) := by decide +kernel
theorem dX12_splitAt_41 : decode cX12_splitAt 41 = .ok (.invokevirtual 366, 3) := by decide +kernel
theorem dX12_splitAt_44 : decode cX12_splitAt 44 = .ok (.iload_n 1, 1) := by decide +kernel
theorem dX12_splitAt_45 : decode cX12_splitAt 45 = .ok (.iload_n 2, 1) := by decide +kernel
theorem dX12_splitAt_46 : decode cX12_splitAt 46 = .ok (.aload_n 0, 1) := by decide +kernel
theorem dX12_splitAt_47 : decode cX12_splitAt 47 = .ok (.getfield 40, 3) := by decide +kernel
theorem dX12_splitAt_50 : decode cX12_splitAt 50 = .ok (.getfield 154, 3) := by decide +kernel
theorem dX12_splitAt_53 : decode cX12_splitAt 53 = .ok (.invokevirtual 376, 3) := by decide +kernel
theorem dX12_splitAt_56 : decode cX12_splitAt 56 = .ok (.iaload, 1) := by decide +kernel
theorem dX12_splitAt_57 : decode cX12_splitAt 57 = .ok (.ireturn, 1) := by decide +kernel
theorem dX12_month_0 : decode cX12_month 0 = .ok (.aload_n 0, 1) := by decide +kernel
theorem dX12_month_1 : decode cX12_month 1 = .ok (.getfield 112, 3) := by decide +kernel
theorem dX12_month_4 : decode cX12_month 4 = .ok (.bipush 12, 2) := by decide +kernel
theorem dX12_month_6 : decode cX12_month 6 = .ok (.if_icmp .ge 13, 3) := by decide +kernel
theorem dX12_month_9 : decode cX12_month 9 = .ok (.aload_n 0, 1) := by decide +kernel
theorem dX12_month_10 : decode cX12_month 10 = .ok (.getfield 109, 3) := by decide +kernel
theorem dX12_month_13 : decode cX12_month 13 = .ok (.getfield 145, 3) := by decide +kernel
theorem dX12_month_16 : decode cX12_month 16 = .ok (.ifCond .ne 6, 3) := by decide +kernel
theorem dX12_month_19 : decode cX12_month 19 = .ok (.bipush (-5), 2) := by decide +kernel
theorem dX12_month_21 : decode cX12_month 21 = .ok (.ireturn, 1) := by decide +kernel
theorem dX12_month_22 : decode cX12_month 22 = .ok (.aload_n 0, 1) := by decide +kernel
theorem dX12_month_23 : decode cX12_month 23 = .ok (.getfield 97, 3) := by decide +kernel
theorem dX12_month_26 : decode cX12_month 26 = .ok (.aload_n 0, 1) := by decide +kernel
theorem dX12_month_27 : decode cX12_month 27 = .ok (.getfield 112, 3) := by decide +kernel
theorem dX12_month_30 : decode cX12_month 30 = .ok (.aload_n 0, 1) := by decide +kernel
theorem dX12_month_31 : decode cX12_month 31 = .ok (.getfield 109, 3) := by decide +kernel
theorem dX12_month_34 : decode cX12_month 34 = .ok (.aastore, 1) := by decide +kernel
theorem dX12_month_35 : decode cX12_month 35 = .ok (.aload_n 0, 1) := by decide +kernel
theorem dX12_month_36 : decode cX12_month 36 = .ok (.dup, 1) := by decide +kernel
theorem dX12_month_37 : decode cX12_month 37 = .ok (.getfield 112, 3) := by decide +kernel
theorem dX12_month_40 : decode cX12_month 40 = .ok (.iconst 1, 1) := by decide +kernel
theorem dX12_month_41 : decode cX12_month 41 = .ok (.iadd, 1) := by decide +kernel
theorem dX12_month_42 : decode cX12_month 42 = .ok (.putfield 112, 3) := by decide +kernel
theorem dX12_month_45 : decode cX12_month 45 = .ok (.aload_n 0, 1) := by decide +kernel
theorem dX12_month_46 : decode cX12_month 46 = .ok (.getfield 112, 3) := by decide +kernel
theorem dX12_month_49 : decode cX12_month 49 = .ok (.iconst 1, 1) := by decide +kernel
theorem dX12_month_50 : decode cX12_month 50 = .ok (.isub, 1) := by decide +kernel
theorem dX12_month_51 : decode cX12_month 51 = .ok (.ireturn, 1) := by decide +kernel
theorem dX12_off_0 : decode cX12_off 0 = .ok (.aload_n 0, 1) := by decide +kernel
theorem dX12_off_1 : decode cX12_off 1 = .ok (.invokevirtual 151, 3) := by decide +kernel
theorem dX12_off_4 : decode cX12_off 4 = .ok (.aload_n 0, 1) := by decide +kernel
theorem dX12_off_5 : decode cX12_off 5 = .ok (.iload_n 1, 1) := by decide +kernel
theorem dX12_off_6 : decode cX12_off 6 = .ok (.invokevirtual 379, 3) := by decide +kernel
theorem dX12_off_9 : decode cX12_off 9 = .ok (.ifCond .eq 22, 3) := by decide +kernel
theorem dX12_off_12 : decode cX12_off 12 = .ok (.iload_n 2, 1) := by decide +kernel
theorem dX12_off_13 : decode cX12_off 13 = .ok (.ifCond .lt 18, 3) := by decide +kernel
theorem dX12_off_16 : decode cX12_off 16 = .ok (.iload_n 2, 1) := by decide +kernel
theorem dX12_off_17 : decode cX12_off 17 = .ok (.iconst 1, 1) := by decide +kernel
theorem dX12_off_18 : decode cX12_off 18 = .ok (.if_icmp .gt 13, 3) := by decide +kernel
theorem dX12_off_21 : decode cX12_off 21 = .ok (.aload_n 0, 1) := by decide +kernel
theorem dX12_off_22 : decode cX12_off 22 = .ok (.getfield 40, 3) := by decide +kernel
theorem dX12_off_25 : decode cX12_off 25 = .ok (.getfield 154, 3) := by decide +kernel
theorem dX12_off_28 : decode cX12_off 28 = .ok (.ifCond .ne 7, 3) := by decide +kernel
theorem dX12_off_31 : decode cX12_off 31 = .ok (.ldc2_w 225, 3) := by decide +kernel
theorem dX12_off_34 : decode cX12_off 34 = .ok (.lreturn, 1) := by decide +kernel
theorem dX12_off_35 : decode cX12_off 35 = .ok (.aload_n 0, 1) := by decide +kernel
theorem dX12_off_36 : decode cX12_off 36 = .ok (.aload_n 0, 1) := by decide +kernel
theorem dX12_off_37 : decode cX12_off 37 = .ok (.getfield 97, 3) := by decide +kernel
theorem dX12_off_40 : decode cX12_off 40 = .ok (.iload_n 1, 1) := by decide +kernel
theorem dX12_off_41 : decode cX12_off 41 = .ok (.aaload, 1) := by decide +kernel
theorem dX12_off_42 : decode cX12_off 42 = .ok (.invokevirtual 329, 3) := by decide +kernel
theorem dX12_off_45 : decode cX12_off 45 = .ok (.aload_n 0, 1) := by decide +kernel
theorem dX12_off_46 : decode cX12_off 46 = .ok (.aload_n 0, 1) := by decide +kernel
theorem dX12_off_47 : decode cX12_off 47 = .ok (.getfield 97, 3) := by decide +kernel
theorem dX12_off_50 : decode cX12_off 50 = .ok (.iload_n 1, 1) := by decide +kernel
theorem dX12_off_51 : decode cX12_off 51 = .ok (.aaload, 1) := by decide +kernel
theorem dX12_off_52 : decode cX12_off 52 = .ok (.invokevirtual 333, 3) := by decide +kernel
theorem dX12_off_55 : decode cX12_off 55 = .ok (.iload_n 2, 1) := by decide +kernel
theorem dX12_off_56 : decode cX12_off 56 = .ok (.invokestatic 209, 3) := by decide +kernel
theorem dX12_off_59 : decode cX12_off 59 = .ok (.lreturn, 1) := by decide +kernel
theorem dX12_share_0 : decode cX12_share 0 = .ok (.aload_n 0, 1) := by decide +kernel
theorem dX12_share_1 : decode cX12_share 1 = .ok (.invokevirtual 151, 3) := by decide +kernel
theorem dX12_share_4 : decode cX12_share 4 = .ok (.aload_n 0, 1) := by decide +kernel
theorem dX12_share_5 : decode cX12_share 5 = .ok (.iload_n 1, 1) := by decide +kernel
theorem dX12_share_6 : decode cX12_share 6 = .ok (.invokevirtual 379, 3) := by decide +kernel
theorem dX12_share_9 : decode cX12_share 9 = .ok (.ifCond .eq 14, 3) := by decide +kernel
theorem dX12_share_12 : decode cX12_share 12 = .ok (.aload_n 0, 1) := by decide +kernel
theorem dX12_share_13 : decode cX12_share 13 = .ok (.getfield 51, 3) := by decide +kernel
theorem dX12_share_16 : decode cX12_share 16 = .ok (.iload_n 2, 1) := by decide +kernel
theorem dX12_share_17 : decode cX12_share 17 = .ok (.invokevirtual 197, 3) := by decide +kernel
theorem dX12_share_20 : decode cX12_share 20 = .ok (.ifCond .ne 6, 3) := by decide +kernel
theorem dX12_share_23 : decode cX12_share 23 = .ok (.bipush (-2), 2) := by decide +kernel
theorem dX12_share_25 : decode cX12_share 25 = .ok (.ireturn, 1) := by decide +kernel
theorem dX12_share_26 : decode cX12_share 26 = .ok (.aload_n 0, 1) := by decide +kernel
theorem dX12_share_27 : decode cX12_share 27 = .ok (.aload_n 0, 1) := by decide +kernel
theorem dX12_share_28 : decode cX12_share 28 = .ok (.getfield 97, 3) := by decide +kernel
theorem dX12_share_31 : decode cX12_share 31 = .ok (.iload_n 1, 1) := by decide +kernel
theorem dX12_share_32 : decode cX12_share 32 = .ok (.aaload, 1) := by decide +kernel
theorem dX12_share_33 : decode cX12_share 33 = .ok (.iload_n 2, 1) := by decide +kernel
theorem dX12_share_34 : decode cX12_share 34 = .ok (.invokevirtual 218, 3) := by decide +kernel
theorem dX12_share_37 : decode cX12_share 37 = .ok (.ireturn, 1) := by decide +kernel
theorem dX12_alarm_0 : decode cX12_alarm 0 = .ok (.iload_n 1, 1) := by decide +kernel
theorem dX12_alarm_1 : decode cX12_alarm 1 = .ok (.ifCond .lt 10, 3) := by decide +kernel
theorem dX12_alarm_4 : decode cX12_alarm 4 = .ok (.iload_n 1, 1) := by decide +kernel
theorem dX12_alarm_5 : decode cX12_alarm 5 = .ok (.sipush 2000, 3) := by decide +kernel
theorem dX12_alarm_8 : decode cX12_alarm 8 = .ok (.if_icmp .le 6, 3) := by decide +kernel
theorem dX12_alarm_11 : decode cX12_alarm 11 = .ok (.bipush (-2), 2) := by decide +kernel
theorem dX12_alarm_13 : decode cX12_alarm 13 = .ok (.ireturn, 1) := by decide +kernel
theorem dX12_alarm_14 : decode cX12_alarm 14 = .ok (.aload_n 0, 1) := by decide +kernel
theorem dX12_alarm_15 : decode cX12_alarm 15 = .ok (.invokevirtual 151, 3) := by decide +kernel
theorem dX12_alarm_18 : decode cX12_alarm 18 = .ok (.aload_n 0, 1) := by decide +kernel
theorem dX12_alarm_19 : decode cX12_alarm 19 = .ok (.getfield 40, 3) := by decide +kernel
theorem dX12_alarm_22 : decode cX12_alarm 22 = .ok (.getfield 154, 3) := by decide +kernel
theorem dX12_alarm_25 : decode cX12_alarm 25 = .ok (.ifCond .ne 5, 3) := by decide +kernel
theorem dX12_alarm_28 : decode cX12_alarm 28 = .ok (.iconst (-1), 1) := by decide +kernel
theorem dX12_alarm_29 : decode cX12_alarm 29 = .ok (.ireturn, 1) := by decide +kernel
theorem dX12_alarm_30 : decode cX12_alarm 30 = .ok (.iconst 0, 1) := by decide +kernel
theorem dX12_alarm_31 : decode cX12_alarm 31 = .ok (.istore_n 2, 1) := by decide +kernel
theorem dX12_alarm_32 : decode cX12_alarm 32 = .ok (.iload_n 2, 1) := by decide +kernel
theorem dX12_alarm_33 : decode cX12_alarm 33 = .ok (.aload_n 0, 1) := by decide +kernel
theorem dX12_alarm_34 : decode cX12_alarm 34 = .ok (.getfield 112, 3) := by decide +kernel
theorem dX12_alarm_37 : decode cX12_alarm 37 = .ok (.if_icmp .ge 42, 3) := by decide +kernel
theorem dX12_alarm_40 : decode cX12_alarm 40 = .ok (.aload_n 0, 1) := by decide +kernel
theorem dX12_alarm_41 : decode cX12_alarm 41 = .ok (.aload_n 0, 1) := by decide +kernel
theorem dX12_alarm_42 : decode cX12_alarm 42 = .ok (.getfield 97, 3) := by decide +kernel
theorem dX12_alarm_45 : decode cX12_alarm 45 = .ok (.iload_n 2, 1) := by decide +kernel
theorem dX12_alarm_46 : decode cX12_alarm 46 = .ok (.aaload, 1) := by decide +kernel
theorem dX12_alarm_47 : decode cX12_alarm 47 = .ok (.invokevirtual 329, 3) := by decide +kernel
theorem dX12_alarm_50 : decode cX12_alarm 50 = .ok (.ldc2_w 382, 3) := by decide +kernel
theorem dX12_alarm_53 : decode cX12_alarm 53 = .ok (.lmul, 1) := by decide +kernel
theorem dX12_alarm_54 : decode cX12_alarm 54 = .ok (.aload_n 0, 1) := by decide +kernel
theorem dX12_alarm_55 : decode cX12_alarm 55 = .ok (.aload_n 0, 1) := by decide +kernel
theorem dX12_alarm_56 : decode cX12_alarm 56 = .ok (.getfield 97, 3) := by decide +kernel
theorem dX12_alarm_59 : decode cX12_alarm 59 = .ok (.iload_n 2, 1) := by decide +kernel
theorem dX12_alarm_60 : decode cX12_alarm 60 = .ok (.aaload, 1) := by decide +kernel
theorem dX12_alarm_61 : decode cX12_alarm 61 = .ok (.invokevirtual 333, 3) := by decide +kernel
theorem dX12_alarm_64 : decode cX12_alarm 64 = .ok (.iload_n 1, 1) := by decide +kernel
theorem dX12_alarm_65 : decode cX12_alarm 65 = .ok (.i2l, 1) := by decide +kernel
theorem dX12_alarm_66 : decode cX12_alarm 66 = .ok (.lmul, 1) := by decide +kernel
theorem dX12_alarm_67 : decode cX12_alarm 67 = .ok (.lcmp, 1) := by decide +kernel
theorem dX12_alarm_68 : decode cX12_alarm 68 = .ok (.ifCond .le 5, 3) := by decide +kernel
theorem dX12_alarm_71 : decode cX12_alarm 71 = .ok (.iload_n 2, 1) := by decide +kernel
theorem dX12_alarm_72 : decode cX12_alarm 72 = .ok (.ireturn, 1) := by decide +kernel
theorem dX12_alarm_73 : decode cX12_alarm 73 = .ok (.iinc 2 1, 3) := by decide +kernel
theorem dX12_alarm_76 : decode cX12_alarm 76 = .ok (.goto (-44), 3) := by decide +kernel
theorem dX12_alarm_79 : decode cX12_alarm 79 = .ok (.iconst (-1), 1) := by decide +kernel
theorem dX12_alarm_80 : decode cX12_alarm 80 = .ok (.ireturn, 1) := by decide +kernel
theorem dX12_rises_0 : decode cX12_rises 0 = .ok (.aload_n 0, 1) := by decide +kernel
theorem dX12_rises_1 : decode cX12_rises 1 = .ok (.invokevirtual 151, 3) := by decide +kernel
theorem dX12_rises_4 : decode cX12_rises 4 = .ok (.aload_n 0, 1) := by decide +kernel
theorem dX12_rises_5 : decode cX12_rises 5 = .ok (.getfield 51, 3) := by decide +kernel
theorem dX12_rises_8 : decode cX12_rises 8 = .ok (.iload_n 1, 1) := by decide +kernel
theorem dX12_rises_9 : decode cX12_rises 9 = .ok (.invokevirtual 197, 3) := by decide +kernel
theorem dX12_rises_12 : decode cX12_rises 12 = .ok (.ifCond .ne 6, 3) := by decide +kernel
theorem dX12_rises_15 : decode cX12_rises 15 = .ok (.bipush (-2), 2) := by decide +kernel
theorem dX12_rises_17 : decode cX12_rises 17 = .ok (.ireturn, 1) := by decide +kernel
theorem dX12_rises_18 : decode cX12_rises 18 = .ok (.iconst 0, 1) := by decide +kernel
theorem dX12_rises_19 : decode cX12_rises 19 = .ok (.istore_n 2, 1) := by decide +kernel
theorem dX12_rises_20 : decode cX12_rises 20 = .ok (.iconst 0, 1) := by decide +kernel
theorem dX12_rises_21 : decode cX12_rises 21 = .ok (.istore_n 3, 1) := by decide +kernel
theorem dX12_rises_22 : decode cX12_rises 22 = .ok (.aload_n 0, 1) := by decide +kernel
theorem dX12_rises_23 : decode cX12_rises 23 = .ok (.getfield 112, 3) := by decide +kernel
theorem dX12_rises_26 : decode cX12_rises 26 = .ok (.ifCond .le 17, 3) := by decide +kernel
theorem dX12_rises_29 : decode cX12_rises 29 = .ok (.aload_n 0, 1) := by decide +kernel
theorem dX12_rises_30 : decode cX12_rises 30 = .ok (.aload_n 0, 1) := by decide +kernel
theorem dX12_rises_31 : decode cX12_rises 31 = .ok (.getfield 97, 3) := by decide +kernel
theorem dX12_rises_34 : decode cX12_rises 34 = .ok (.iconst 0, 1) := by decide +kernel
theorem dX12_rises_35 : decode cX12_rises 35 = .ok (.aaload, 1) := by decide +kernel
theorem dX12_rises_36 : decode cX12_rises 36 = .ok (.iload_n 1, 1) := by decide +kernel
theorem dX12_rises_37 : decode cX12_rises 37 = .ok (.invokevirtual 218, 3) := by decide +kernel
theorem dX12_rises_40 : decode cX12_rises 40 = .ok (.goto 4, 3) := by decide +kernel
theorem dX12_rises_43 : decode cX12_rises 43 = .ok (.iconst 0, 1) := by decide +kernel
theorem dX12_rises_44 : decode cX12_rises 44 = .ok (.istore 4, 2) := by decide +kernel
theorem dX12_rises_46 : decode cX12_rises 46 = .ok (.iconst 1, 1) := by decide +kernel
theorem dX12_rises_47 : decode cX12_rises 47 = .ok (.istore 5, 2) := by decide +kernel
theorem dX12_rises_49 : decode cX12_rises 49 = .ok (.iload 5, 2) := by decide +kernel
theorem dX12_rises_51 : decode cX12_rises 51 = .ok (.aload_n 0, 1) := by decide +kernel
theorem dX12_rises_52 : decode cX12_rises 52 = .ok (.getfield 112, 3) := by decide +kernel
theorem dX12_rises_55 : decode cX12_rises 55 = .ok (.if_icmp .ge 84, 3) := by decide +kernel
theorem dX12_rises_58 : decode cX12_rises 58 = .ok (.aload_n 0, 1) := by decide +kernel
theorem dX12_rises_59 : decode cX12_rises 59 = .ok (.aload_n 0, 1) := by decide +kernel
theorem dX12_rises_60 : decode cX12_rises 60 = .ok (.getfield 97, 3) := by decide +kernel
theorem dX12_rises_63 : decode cX12_rises 63 = .ok (.iload 5, 2) := by decide +kernel
theorem dX12_rises_65 : decode cX12_rises 65 = .ok (.aaload, 1) := by decide +kernel
theorem dX12_rises_66 : decode cX12_rises 66 = .ok (.iload_n 1, 1) := by decide +kernel
theorem dX12_rises_67 : decode cX12_rises 67 = .ok (.invokevirtual 218, 3) := by decide +kernel
theorem dX12_rises_70 : decode cX12_rises 70 = .ok (.istore 6, 2) := by decide +kernel
theorem dX12_rises_72 : decode cX12_rises 72 = .ok (.iload 6, 2) := by decide +kernel
theorem dX12_rises_74 : decode cX12_rises 74 = .ok (.aload_n 0, 1) := by decide +kernel
theorem dX12_rises_75 : decode cX12_rises 75 = .ok (.getfield 97, 3) := by decide +kernel
theorem dX12_rises_78 : decode cX12_rises 78 = .ok (.iload 5, 2) := by decide +kernel
theorem dX12_rises_80 : decode cX12_rises 80 = .ok (.iconst 1, 1) := by decide +kernel
theorem dX12_rises_81 : decode cX12_rises 81 = .ok (.isub, 1) := by decide +kernel
theorem dX12_rises_82 : decode cX12_rises 82 = .ok (.aaload, 1) := by decide +kernel
theorem dX12_rises_83 : decode cX12_rises 83 = .ok (.getfield 145, 3) := by decide +kernel
theorem dX12_rises_86 : decode cX12_rises 86 = .ok (.imul, 1) := by decide +kernel
theorem dX12_rises_87 : decode cX12_rises 87 = .ok (.iload 4, 2) := by decide +kernel
theorem dX12_rises_89 : decode cX12_rises 89 = .ok (.aload_n 0, 1) := by decide +kernel
theorem dX12_rises_90 : decode cX12_rises 90 = .ok (.getfield 97, 3) := by decide +kernel
theorem dX12_rises_93 : decode cX12_rises 93 = .ok (.iload 5, 2) := by decide +kernel
theorem dX12_rises_95 : decode cX12_rises 95 = .ok (.aaload, 1) := by decide +kernel
theorem dX12_rises_96 : decode cX12_rises 96 = .ok (.getfield 145, 3) := by decide +kernel
theorem dX12_rises_99 : decode cX12_rises 99 = .ok (.imul, 1) := by decide +kernel
theorem dX12_rises_100 : decode cX12_rises 100 = .ok (.if_icmp .le 7, 3) := by decide +kernel
theorem dX12_rises_103 : decode cX12_rises 103 = .ok (.iconst 1, 1) := by decide +kernel
theorem dX12_rises_104 : decode cX12_rises 104 = .ok (.goto 4, 3) := by decide +kernel
theorem dX12_rises_107 : decode cX12_rises 107 = .ok (.iconst 0, 1) := by decide +kernel
theorem dX12_rises_108 : decode cX12_rises 108 = .ok (.istore 7, 2) := by decide +kernel
theorem dX12_rises_110 : decode cX12_rises 110 = .ok (.iload 7, 2) := by decide +kernel
theorem dX12_rises_112 : decode cX12_rises 112 = .ok (.ifCond .eq 9, 3) := by decide +kernel
theorem dX12_rises_115 : decode cX12_rises 115 = .ok (.iload_n 3, 1) := by decide +kernel
theorem dX12_rises_116 : decode cX12_rises 116 = .ok (.iconst 1, 1) := by decide +kernel
theorem dX12_rises_117 : decode cX12_rises 117 = .ok (.iadd, 1) := by decide +kernel
theorem dX12_rises_118 : decode cX12_rises 118 = .ok (.goto 4, 3) := by decide +kernel
theorem dX12_rises_121 : decode cX12_rises 121 = .ok (.iconst 0, 1) := by decide +kernel
theorem dX12_rises_122 : decode cX12_rises 122 = .ok (.istore_n 3, 1) := by decide +kernel
theorem dX12_rises_123 : decode cX12_rises 123 = .ok (.iload_n 2, 1) := by decide +kernel
theorem dX12_rises_124 : decode cX12_rises 124 = .ok (.iload_n 3, 1) := by decide +kernel
theorem dX12_rises_125 : decode cX12_rises 125 = .ok (.invokestatic 384, 3) := by decide +kernel
theorem dX12_rises_128 : decode cX12_rises 128 = .ok (.istore_n 2, 1) := by decide +kernel
theorem dX12_rises_129 : decode cX12_rises 129 = .ok (.iload 6, 2) := by decide +kernel
theorem dX12_rises_131 : decode cX12_rises 131 = .ok (.istore 4, 2) := by decide +kernel
theorem dX12_rises_133 : decode cX12_rises 133 = .ok (.iinc 5 1, 3) := by decide +kernel
theorem dX12_rises_136 : decode cX12_rises 136 = .ok (.goto (-87), 3) := by decide +kernel
theorem dX12_rises_139 : decode cX12_rises 139 = .ok (.iload_n 2, 1) := by decide +kernel
theorem dX12_rises_140 : decode cX12_rises 140 = .ok (.ireturn, 1) := by decide +kernel
theorem dX12_tell_0 : decode cX12_tell 0 = .ok (.aload_n 0, 1) := by decide +kernel
theorem dX12_tell_1 : decode cX12_tell 1 = .ok (.invokevirtual 151, 3) := by decide +kernel
theorem dX12_tell_4 : decode cX12_tell 4 = .ok (.aload_n 0, 1) := by decide +kernel
theorem dX12_tell_5 : decode cX12_tell 5 = .ok (.getfield 20, 3) := by decide +kernel
theorem dX12_tell_8 : decode cX12_tell 8 = .ok (.iconst 0, 1) := by decide +kernel
theorem dX12_tell_9 : decode cX12_tell 9 = .ok (.putfield 127, 3) := by decide +kernel
theorem dX12_tell_12 : decode cX12_tell 12 = .ok (.iconst 0, 1) := by decide +kernel
theorem dX12_tell_13 : decode cX12_tell 13 = .ok (.istore_n 1, 1) := by decide +kernel
theorem dX12_tell_14 : decode cX12_tell 14 = .ok (.iload_n 1, 1) := by decide +kernel
theorem dX12_tell_15 : decode cX12_tell 15 = .ok (.aload_n 0, 1) := by decide +kernel
theorem dX12_tell_16 : decode cX12_tell 16 = .ok (.getfield 51, 3) := by decide +kernel
theorem dX12_tell_19 : decode cX12_tell 19 = .ok (.getfield 162, 3) := by decide +kernel
theorem dX12_tell_22 : decode cX12_tell 22 = .ok (.if_icmp .ge 109, 3) := by decide +kernel
theorem dX12_tell_25 : decode cX12_tell 25 = .ok (.aload_n 0, 1) := by decide +kernel
theorem dX12_tell_26 : decode cX12_tell 26 = .ok (.getfield 20, 3) := by decide +kernel
theorem dX12_tell_29 : decode cX12_tell 29 = .ok (.aload_n 0, 1) := by decide +kernel
theorem dX12_tell_30 : decode cX12_tell 30 = .ok (.getfield 51, 3) := by decide +kernel
theorem dX12_tell_33 : decode cX12_tell 33 = .ok (.getfield 200, 3) := by decide +kernel
theorem dX12_tell_36 : decode cX12_tell 36 = .ok (.iload_n 1, 1) := by decide +kernel
theorem dX12_tell_37 : decode cX12_tell 37 = .ok (.iaload, 1) := by decide +kernel
theorem dX12_tell_38 : decode cX12_tell 38 = .ok (.invokevirtual 389, 3) := by decide +kernel
theorem dX12_tell_41 : decode cX12_tell 41 = .ok (.aload_n 0, 1) := by decide +kernel
theorem dX12_tell_42 : decode cX12_tell 42 = .ok (.getfield 20, 3) := by decide +kernel
theorem dX12_tell_45 : decode cX12_tell 45 = .ok (.bipush 45, 2) := by decide +kernel
theorem dX12_tell_47 : decode cX12_tell 47 = .ok (.invokevirtual 392, 3) := by decide +kernel
theorem dX12_tell_50 : decode cX12_tell 50 = .ok (.aload_n 0, 1) := by decide +kernel
theorem dX12_tell_51 : decode cX12_tell 51 = .ok (.getfield 20, 3) := by decide +kernel
theorem dX12_tell_54 : decode cX12_tell 54 = .ok (.aload_n 0, 1) := by decide +kernel
theorem dX12_tell_55 : decode cX12_tell 55 = .ok (.getfield 51, 3) := by decide +kernel
theorem dX12_tell_58 : decode cX12_tell 58 = .ok (.getfield 202, 3) := by decide +kernel
theorem dX12_tell_61 : decode cX12_tell 61 = .ok (.iload_n 1, 1) := by decide +kernel
theorem dX12_tell_62 : decode cX12_tell 62 = .ok (.iaload, 1) := by decide +kernel
theorem dX12_tell_63 : decode cX12_tell 63 = .ok (.invokevirtual 389, 3) := by decide +kernel
theorem dX12_tell_66 : decode cX12_tell 66 = .ok (.aload_n 0, 1) := by decide +kernel
theorem dX12_tell_67 : decode cX12_tell 67 = .ok (.getfield 20, 3) := by decide +kernel
theorem dX12_tell_70 : decode cX12_tell 70 = .ok (.bipush 32, 2) := by decide +kernel
theorem dX12_tell_72 : decode cX12_tell 72 = .ok (.invokevirtual 392, 3) := by decide +kernel
theorem dX12_tell_75 : decode cX12_tell 75 = .ok (.aload_n 0, 1) := by decide +kernel
theorem dX12_tell_76 : decode cX12_tell 76 = .ok (.getfield 20, 3) := by decide +kernel
theorem dX12_tell_79 : decode cX12_tell 79 = .ok (.aload_n 0, 1) := by decide +kernel
theorem dX12_tell_80 : decode cX12_tell 80 = .ok (.getfield 51, 3) := by decide +kernel
theorem dX12_tell_83 : decode cX12_tell 83 = .ok (.getfield 204, 3) := by decide +kernel
theorem dX12_tell_86 : decode cX12_tell 86 = .ok (.iload_n 1, 1) := by decide +kernel
theorem dX12_tell_87 : decode cX12_tell 87 = .ok (.iaload, 1) := by decide +kernel
theorem dX12_tell_88 : decode cX12_tell 88 = .ok (.invokevirtual 389, 3) := by decide +kernel
theorem dX12_tell_91 : decode cX12_tell 91 = .ok (.aload_n 0, 1) := by decide +kernel
theorem dX12_tell_92 : decode cX12_tell 92 = .ok (.getfield 20, 3) := by decide +kernel
theorem dX12_tell_95 : decode cX12_tell 95 = .ok (.bipush 32, 2) := by decide +kernel
theorem dX12_tell_97 : decode cX12_tell 97 = .ok (.invokevirtual 392, 3) := by decide +kernel
theorem dX12_tell_100 : decode cX12_tell 100 = .ok (.aload_n 0, 1) := by decide +kernel
theorem dX12_tell_101 : decode cX12_tell 101 = .ok (.getfield 20, 3) := by decide +kernel
theorem dX12_tell_104 : decode cX12_tell 104 = .ok (.aload_n 0, 1) := by decide +kernel
theorem dX12_tell_105 : decode cX12_tell 105 = .ok (.getfield 51, 3) := by decide +kernel
theorem dX12_tell_108 : decode cX12_tell 108 = .ok (.getfield 205, 3) := by decide +kernel
theorem dX12_tell_111 : decode cX12_tell 111 = .ok (.iload_n 1, 1) := by decide +kernel
theorem dX12_tell_112 : decode cX12_tell 112 = .ok (.iaload, 1) := by decide +kernel
theorem dX12_tell_113 : decode cX12_tell 113 = .ok (.invokevirtual 389, 3) := by decide +kernel
theorem dX12_tell_116 : decode cX12_tell 116 = .ok (.aload_n 0, 1) := by decide +kernel
theorem dX12_tell_117 : decode cX12_tell 117 = .ok (.getfield 20, 3) := by decide +kernel
theorem dX12_tell_120 : decode cX12_tell 120 = .ok (.bipush 59, 2) := by decide +kernel
theorem dX12_tell_122 : decode cX12_tell 122 = .ok (.invokevirtual 392, 3) := by decide +kernel
theorem dX12_tell_125 : decode cX12_tell 125 = .ok (.iinc 1 1, 3) := by decide +kernel
theorem dX12_tell_128 : decode cX12_tell 128 = .ok (.goto (-114), 3) := by decide +kernel
theorem dX12_tell_131 : decode cX12_tell 131 = .ok (.aload_n 0, 1) := by decide +kernel
theorem dX12_tell_132 : decode cX12_tell 132 = .ok (.getfield 20, 3) := by decide +kernel
theorem dX12_tell_135 : decode cX12_tell 135 = .ok (.getfield 127, 3) := by decide +kernel
theorem dX12_tell_138 : decode cX12_tell 138 = .ok (.ireturn, 1) := by decide +kernel
theorem dX12_octet_0 : decode cX12_octet 0 = .ok (.iload_n 1, 1) := by decide +kernel
theorem dX12_octet_1 : decode cX12_octet 1 = .ok (.ifCond .lt 14, 3) := by decide +kernel
theorem dX12_octet_4 : decode cX12_octet 4 = .ok (.iload_n 1, 1) := by decide +kernel
theorem dX12_octet_5 : decode cX12_octet 5 = .ok (.aload_n 0, 1) := by decide +kernel
theorem dX12_octet_6 : decode cX12_octet 6 = .ok (.getfield 20, 3) := by decide +kernel
theorem dX12_octet_9 : decode cX12_octet 9 = .ok (.getfield 127, 3) := by decide +kernel
theorem dX12_octet_12 : decode cX12_octet 12 = .ok (.if_icmp .lt 7, 3) := by decide +kernel
theorem dX12_octet_15 : decode cX12_octet 15 = .ok (.iconst (-1), 1) := by decide +kernel
theorem dX12_octet_16 : decode cX12_octet 16 = .ok (.goto 12, 3) := by decide +kernel
theorem dX12_octet_19 : decode cX12_octet 19 = .ok (.aload_n 0, 1) := by decide +kernel
theorem dX12_octet_20 : decode cX12_octet 20 = .ok (.getfield 20, 3) := by decide +kernel
theorem dX12_octet_23 : decode cX12_octet 23 = .ok (.getfield 395, 3) := by decide +kernel
theorem dX12_octet_26 : decode cX12_octet 26 = .ok (.iload_n 1, 1) := by decide +kernel
theorem dX12_octet_27 : decode cX12_octet 27 = .ok (.iaload, 1) := by decide +kernel
theorem dX12_octet_28 : decode cX12_octet 28 = .ok (.ireturn, 1) := by decide +kernel
theorem dX12_open_0 : decode cX12_open 0 = .ok (.iload_n 1, 1) := by decide +kernel
theorem dX12_open_1 : decode cX12_open 1 = .ok (.invokestatic 222, 3) := by decide +kernel
theorem dX12_open_4 : decode cX12_open 4 = .ok (.ifCond .eq 15, 3) := by decide +kernel
theorem dX12_open_7 : decode cX12_open 7 = .ok (.aload_n 0, 1) := by decide +kernel
theorem dX12_open_8 : decode cX12_open 8 = .ok (.getfield 33, 3) := by decide +kernel
theorem dX12_open_11 : decode cX12_open 11 = .ok (.getfield 398, 3) := by decide +kernel
theorem dX12_open_14 : decode cX12_open 14 = .ok (.iload_n 1, 1) := by decide +kernel
theorem dX12_open_15 : decode cX12_open 15 = .ok (.iaload, 1) := by decide +kernel
theorem dX12_open_16 : decode cX12_open 16 = .ok (.goto 5, 3) := by decide +kernel
theorem dX12_open_19 : decode cX12_open 19 = .ok (.bipush (-2), 2) := by decide +kernel
theorem dX12_open_21 : decode cX12_open 21 = .ok (.ireturn, 1) := by decide +kernel
theorem dX12_infer_0 : decode cX12_infer 0 = .ok (.iload_n 1, 1) := by decide +kernel
theorem dX12_infer_1 : decode cX12_infer 1 = .ok (.ifCond .lt 10, 3) := by decide +kernel
theorem dX12_infer_4 : decode cX12_infer 4 = .ok (.iload_n 1, 1) := by decide +kernel
theorem dX12_infer_5 : decode cX12_infer 5 = .ok (.sipush 1000, 3) := by decide +kernel
theorem dX12_infer_8 : decode cX12_infer 8 = .ok (.if_icmp .le 6, 3) := by decide +kernel
theorem dX12_infer_11 : decode cX12_infer 11 = .ok (.bipush (-2), 2) := by decide +kernel
theorem dX12_infer_13 : decode cX12_infer 13 = .ok (.ireturn, 1) := by decide +kernel
theorem dX12_infer_14 : decode cX12_infer 14 = .ok (.aload_n 0, 1) := by decide +kernel
theorem dX12_infer_15 : decode cX12_infer 15 = .ok (.getfield 33, 3) := by decide +kernel
theorem dX12_infer_18 : decode cX12_infer 18 = .ok (.invokevirtual 178, 3) := by decide +kernel
theorem dX12_infer_21 : decode cX12_infer 21 = .ok (.istore_n 2, 1) := by decide +kernel
theorem dX12_infer_22 : decode cX12_infer 22 = .ok (.iload_n 2, 1) := by decide +kernel
theorem dX12_infer_23 : decode cX12_infer 23 = .ok (.ifCond .ne 5, 3) := by decide +kernel
theorem dX12_infer_26 : decode cX12_infer 26 = .ok (.iconst 0, 1) := by decide +kernel
theorem dX12_infer_27 : decode cX12_infer 27 = .ok (.ireturn, 1) := by decide +kernel
theorem dX12_infer_28 : decode cX12_infer 28 = .ok (.aload_n 0, 1) := by decide +kernel
theorem dX12_infer_29 : decode cX12_infer 29 = .ok (.invokevirtual 151, 3) := by decide +kernel
theorem dX12_infer_32 : decode cX12_infer 32 = .ok (.aload_n 0, 1) := by decide +kernel
theorem dX12_infer_33 : decode cX12_infer 33 = .ok (.getfield 40, 3) := by decide +kernel
theorem dX12_infer_36 : decode cX12_infer 36 = .ok (.getfield 154, 3) := by decide +kernel
theorem dX12_infer_39 : decode cX12_infer 39 = .ok (.ifCond .ne 6, 3) := by decide +kernel
theorem dX12_infer_42 : decode cX12_infer 42 = .ok (.bipush (-5), 2) := by decide +kernel
theorem dX12_infer_44 : decode cX12_infer 44 = .ok (.ireturn, 1) := by decide +kernel
theorem dX12_infer_45 : decode cX12_infer 45 = .ok (.aload_n 0, 1) := by decide +kernel
theorem dX12_infer_46 : decode cX12_infer 46 = .ok (.getfield 70, 3) := by decide +kernel
theorem dX12_infer_49 : decode cX12_infer 49 = .ok (.aload_n 0, 1) := by decide +kernel
theorem dX12_infer_50 : decode cX12_infer 50 = .ok (.getfield 33, 3) := by decide +kernel
theorem dX12_infer_53 : decode cX12_infer 53 = .ok (.aload_n 0, 1) := by decide +kernel
theorem dX12_infer_54 : decode cX12_infer 54 = .ok (.getfield 51, 3) := by decide +kernel
theorem dX12_infer_57 : decode cX12_infer 57 = .ok (.iload_n 1, 1) := by decide +kernel
theorem dX12_infer_58 : decode cX12_infer 58 = .ok (.invokevirtual 401, 3) := by decide +kernel
theorem dX12_infer_61 : decode cX12_infer 61 = .ok (.aload_n 0, 1) := by decide +kernel
theorem dX12_infer_62 : decode cX12_infer 62 = .ok (.getfield 70, 3) := by decide +kernel
theorem dX12_infer_65 : decode cX12_infer 65 = .ok (.aload_n 0, 1) := by decide +kernel
theorem dX12_infer_66 : decode cX12_infer 66 = .ok (.getfield 33, 3) := by decide +kernel
theorem dX12_infer_69 : decode cX12_infer 69 = .ok (.iconst 1, 1) := by decide +kernel
theorem dX12_infer_70 : decode cX12_infer 70 = .ok (.invokevirtual 405, 3) := by decide +kernel
theorem dX12_infer_73 : decode cX12_infer 73 = .ok (.aload_n 0, 1) := by decide +kernel
theorem dX12_infer_74 : decode cX12_infer 74 = .ok (.getfield 33, 3) := by decide +kernel
theorem dX12_infer_77 : decode cX12_infer 77 = .ok (.invokevirtual 409, 3) := by decide +kernel
theorem dX12_infer_80 : decode cX12_infer 80 = .ok (.ifCond .ne 18, 3) := by decide +kernel
theorem dX12_infer_83 : decode cX12_infer 83 = .ok (.aload_n 0, 1) := by decide +kernel
theorem dX12_infer_84 : decode cX12_infer 84 = .ok (.getfield 70, 3) := by decide +kernel
theorem dX12_infer_87 : decode cX12_infer 87 = .ok (.aload_n 0, 1) := by decide +kernel
theorem dX12_infer_88 : decode cX12_infer 88 = .ok (.getfield 33, 3) := by decide +kernel
theorem dX12_infer_91 : decode cX12_infer 91 = .ok (.iconst (-1), 1) := by decide +kernel
theorem dX12_infer_92 : decode cX12_infer 92 = .ok (.invokevirtual 405, 3) := by decide +kernel
theorem dX12_infer_95 : decode cX12_infer 95 = .ok (.bipush (-5), 2) := by decide +kernel
theorem dX12_infer_97 : decode cX12_infer 97 = .ok (.ireturn, 1) := by decide +kernel
theorem dX12_infer_98 : decode cX12_infer 98 = .ok (.aload_n 0, 1) := by decide +kernel
theorem dX12_infer_99 : decode cX12_infer 99 = .ok (.bipush 7, 2) := by decide +kernel
theorem dX12_infer_101 : decode cX12_infer 101 = .ok (.iconst 0, 1) := by decide +kernel
theorem dX12_infer_102 : decode cX12_infer 102 = .ok (.iconst 0, 1) := by decide +kernel
theorem dX12_infer_103 : decode cX12_infer 103 = .ok (.iconst 0, 1) := by decide +kernel
theorem dX12_infer_104 : decode cX12_infer 104 = .ok (.invokevirtual 412, 3) := by decide +kernel
theorem dX12_infer_107 : decode cX12_infer 107 = .ok (.iload_n 2, 1) := by decide +kernel
theorem dX12_infer_108 : decode cX12_infer 108 = .ok (.ireturn, 1) := by decide +kernel
theorem dX12_decide_0 : decode cX12_decide 0 = .ok (.iload_n 1, 1) := by decide +kernel
theorem dX12_decide_1 : decode cX12_decide 1 = .ok (.invokestatic 222, 3) := by decide +kernel
theorem dX12_decide_4 : decode cX12_decide 4 = .ok (.ifCond .eq 12, 3) := by decide +kernel
theorem dX12_decide_7 : decode cX12_decide 7 = .ok (.iload_n 2, 1) := by decide +kernel
theorem dX12_decide_8 : decode cX12_decide 8 = .ok (.ifCond .lt 8, 3) := by decide +kernel
theorem dX12_decide_11 : decode cX12_decide 11 = .ok (.iload_n 2, 1) := by decide +kernel
theorem dX12_decide_12 : decode cX12_decide 12 = .ok (.iconst 2, 1) := by decide +kernel
theorem dX12_decide_13 : decode cX12_decide 13 = .ok (.if_icmp .le 6, 3) := by decide +kernel
theorem dX12_decide_16 : decode cX12_decide 16 = .ok (.bipush (-2), 2) := by decide +kernel
theorem dX12_decide_18 : decode cX12_decide 18 = .ok (.ireturn, 1) := by decide +kernel
theorem dX12_decide_19 : decode cX12_decide 19 = .ok (.aload_n 0, 1) := by decide +kernel
theorem dX12_decide_20 : decode cX12_decide 20 = .ok (.getfield 77, 3) := by decide +kernel
theorem dX12_decide_23 : decode cX12_decide 23 = .ok (.invokevirtual 416, 3) := by decide +kernel
theorem dX12_decide_26 : decode cX12_decide 26 = .ok (.ifCond .ne 6, 3) := by decide +kernel
theorem dX12_decide_29 : decode cX12_decide 29 = .ok (.bipush (-5), 2) := by decide +kernel
theorem dX12_decide_31 : decode cX12_decide 31 = .ok (.ireturn, 1) := by decide +kernel
theorem dX12_decide_32 : decode cX12_decide 32 = .ok (.aload_n 0, 1) := by decide +kernel
theorem dX12_decide_33 : decode cX12_decide 33 = .ok (.invokevirtual 151, 3) := by decide +kernel
theorem dX12_decide_36 : decode cX12_decide 36 = .ok (.aload_n 0, 1) := by decide +kernel
theorem dX12_decide_37 : decode cX12_decide 37 = .ok (.getfield 57, 3) := by decide +kernel
theorem dX12_decide_40 : decode cX12_decide 40 = .ok (.aload_n 0, 1) := by decide +kernel
theorem dX12_decide_41 : decode cX12_decide 41 = .ok (.getfield 40, 3) := by decide +kernel
theorem dX12_decide_44 : decode cX12_decide 44 = .ok (.aload_n 0, 1) := by decide +kernel
theorem dX12_decide_45 : decode cX12_decide 45 = .ok (.getfield 33, 3) := by decide +kernel
theorem dX12_decide_48 : decode cX12_decide 48 = .ok (.invokevirtual 300, 3) := by decide +kernel
theorem dX12_decide_51 : decode cX12_decide 51 = .ok (.aload_n 0, 1) := by decide +kernel
theorem dX12_decide_52 : decode cX12_decide 52 = .ok (.getfield 77, 3) := by decide +kernel
theorem dX12_decide_55 : decode cX12_decide 55 = .ok (.iload_n 1, 1) := by decide +kernel
theorem dX12_decide_56 : decode cX12_decide 56 = .ok (.iload_n 2, 1) := by decide +kernel
theorem dX12_decide_57 : decode cX12_decide 57 = .ok (.aload_n 0, 1) := by decide +kernel
theorem dX12_decide_58 : decode cX12_decide 58 = .ok (.getfield 57, 3) := by decide +kernel
theorem dX12_decide_61 : decode cX12_decide 61 = .ok (.iload_n 1, 1) := by decide +kernel
theorem dX12_decide_62 : decode cX12_decide 62 = .ok (.invokevirtual 419, 3) := by decide +kernel
theorem dX12_decide_65 : decode cX12_decide 65 = .ok (.invokevirtual 422, 3) := by decide +kernel
theorem dX12_decide_68 : decode cX12_decide 68 = .ok (.aload_n 0, 1) := by decide +kernel
theorem dX12_decide_69 : decode cX12_decide 69 = .ok (.iconst 4, 1) := by decide +kernel
theorem dX12_decide_70 : decode cX12_decide 70 = .ok (.iconst 0, 1) := by decide +kernel
