theorem dX12_decide_71 : decode cX12_decide 71 = .ok (.iconst 0, 1) := by decide +kernel
theorem dX12_decide_72 : decode cX12_decide 72 = .ok (.iconst 0, 1) := by decide +kernel
theorem dX12_decide_73 : decode cX12_decide 73 = .ok (.invokevirtual 412, 3) := by decide +kernel
theorem dX12_decide_76 : decode cX12_decide 76 = .ok (.aload_n 0, 1) := by decide +kernel
theorem dX12_decide_77 : decode cX12_decide 77 = .ok (.getfield 77, 3) := by decide +kernel
theorem dX12_decide_80 : decode cX12_decide 80 = .ok (.getfield 140, 3) := by decide +kernel
theorem dX12_decide_83 : decode cX12_decide 83 = .ok (.iconst 1, 1) := by decide +kernel
theorem dX12_decide_84 : decode cX12_decide 84 = .ok (.isub, 1) := by decide +kernel
theorem dX12_decide_85 : decode cX12_decide 85 = .ok (.ireturn, 1) := by decide +kernel
theorem dX12_decision_0 : decode cX12_decision 0 = .ok (.aload_n 0, 1) := by decide +kernel
theorem dX12_decision_1 : decode cX12_decision 1 = .ok (.getfield 77, 3) := by decide +kernel
theorem dX12_decision_4 : decode cX12_decision 4 = .ok (.iload_n 1, 1) := by decide +kernel
theorem dX12_decision_5 : decode cX12_decision 5 = .ok (.invokevirtual 426, 3) := by decide +kernel
theorem dX12_decision_8 : decode cX12_decision 8 = .ok (.ifCond .ne 6, 3) := by decide +kernel
theorem dX12_decision_11 : decode cX12_decision 11 = .ok (.bipush (-2), 2) := by decide +kernel
theorem dX12_decision_13 : decode cX12_decision 13 = .ok (.ireturn, 1) := by decide +kernel
theorem dX12_decision_14 : decode cX12_decision 14 = .ok (.iload_n 2, 1) := by decide +kernel
theorem dX12_decision_15 : decode cX12_decision 15 = .ok (.tableswitch 91 0 4 #[33, 43, 53, 63, 73], 33) := by decide +kernel
theorem dX12_decision_48 : decode cX12_decision 48 = .ok (.aload_n 0, 1) := by decide +kernel
theorem dX12_decision_49 : decode cX12_decision 49 = .ok (.getfield 77, 3) := by decide +kernel
theorem dX12_decision_52 : decode cX12_decision 52 = .ok (.getfield 427, 3) := by decide +kernel
theorem dX12_decision_55 : decode cX12_decision 55 = .ok (.iload_n 1, 1) := by decide +kernel
theorem dX12_decision_56 : decode cX12_decision 56 = .ok (.iaload, 1) := by decide +kernel
theorem dX12_decision_57 : decode cX12_decision 57 = .ok (.ireturn, 1) := by decide +kernel
theorem dX12_decision_58 : decode cX12_decision 58 = .ok (.aload_n 0, 1) := by decide +kernel
theorem dX12_decision_59 : decode cX12_decision 59 = .ok (.getfield 77, 3) := by decide +kernel
theorem dX12_decision_62 : decode cX12_decision 62 = .ok (.getfield 428, 3) := by decide +kernel
theorem dX12_decision_65 : decode cX12_decision 65 = .ok (.iload_n 1, 1) := by decide +kernel
theorem dX12_decision_66 : decode cX12_decision 66 = .ok (.iaload, 1) := by decide +kernel
theorem dX12_decision_67 : decode cX12_decision 67 = .ok (.ireturn, 1) := by decide +kernel
theorem dX12_decision_68 : decode cX12_decision 68 = .ok (.aload_n 0, 1) := by decide +kernel
theorem dX12_decision_69 : decode cX12_decision 69 = .ok (.getfield 77, 3) := by decide +kernel
theorem dX12_decision_72 : decode cX12_decision 72 = .ok (.getfield 431, 3) := by decide +kernel
theorem dX12_decision_75 : decode cX12_decision 75 = .ok (.iload_n 1, 1) := by decide +kernel
theorem dX12_decision_76 : decode cX12_decision 76 = .ok (.iaload, 1) := by decide +kernel
theorem dX12_decision_77 : decode cX12_decision 77 = .ok (.ireturn, 1) := by decide +kernel
theorem dX12_decision_78 : decode cX12_decision 78 = .ok (.aload_n 0, 1) := by decide +kernel
theorem dX12_decision_79 : decode cX12_decision 79 = .ok (.getfield 77, 3) := by decide +kernel
theorem dX12_decision_82 : decode cX12_decision 82 = .ok (.getfield 433, 3) := by decide +kernel
theorem dX12_decision_85 : decode cX12_decision 85 = .ok (.iload_n 1, 1) := by decide +kernel
theorem dX12_decision_86 : decode cX12_decision 86 = .ok (.iaload, 1) := by decide +kernel
theorem dX12_decision_87 : decode cX12_decision 87 = .ok (.ireturn, 1) := by decide +kernel
theorem dX12_decision_88 : decode cX12_decision 88 = .ok (.aload_n 0, 1) := by decide +kernel
theorem dX12_decision_89 : decode cX12_decision 89 = .ok (.getfield 77, 3) := by decide +kernel
theorem dX12_decision_92 : decode cX12_decision 92 = .ok (.getfield 436, 3) := by decide +kernel
theorem dX12_decision_95 : decode cX12_decision 95 = .ok (.iload_n 1, 1) := by decide +kernel
theorem dX12_decision_96 : decode cX12_decision 96 = .ok (.iaload, 1) := by decide +kernel
theorem dX12_decision_97 : decode cX12_decision 97 = .ok (.ifCond .eq 7, 3) := by decide +kernel
theorem dX12_decision_100 : decode cX12_decision 100 = .ok (.iconst 1, 1) := by decide +kernel
theorem dX12_decision_101 : decode cX12_decision 101 = .ok (.goto 4, 3) := by decide +kernel
theorem dX12_decision_104 : decode cX12_decision 104 = .ok (.iconst 0, 1) := by decide +kernel
theorem dX12_decision_105 : decode cX12_decision 105 = .ok (.ireturn, 1) := by decide +kernel
theorem dX12_decision_106 : decode cX12_decision 106 = .ok (.bipush (-2), 2) := by decide +kernel
theorem dX12_decision_108 : decode cX12_decision 108 = .ok (.ireturn, 1) := by decide +kernel
theorem dX12_outcome_0 : decode cX12_outcome 0 = .ok (.aload_n 0, 1) := by decide +kernel
theorem dX12_outcome_1 : decode cX12_outcome 1 = .ok (.getfield 77, 3) := by decide +kernel
theorem dX12_outcome_4 : decode cX12_outcome 4 = .ok (.iload_n 1, 1) := by decide +kernel
theorem dX12_outcome_5 : decode cX12_outcome 5 = .ok (.invokevirtual 426, 3) := by decide +kernel
theorem dX12_outcome_8 : decode cX12_outcome 8 = .ok (.ifCond .eq 12, 3) := by decide +kernel
theorem dX12_outcome_11 : decode cX12_outcome 11 = .ok (.iload_n 2, 1) := by decide +kernel
theorem dX12_outcome_12 : decode cX12_outcome 12 = .ok (.ifCond .lt 8, 3) := by decide +kernel
theorem dX12_outcome_15 : decode cX12_outcome 15 = .ok (.iload_n 2, 1) := by decide +kernel
theorem dX12_outcome_16 : decode cX12_outcome 16 = .ok (.iconst 1, 1) := by decide +kernel
theorem dX12_outcome_17 : decode cX12_outcome 17 = .ok (.if_icmp .le 6, 3) := by decide +kernel
theorem dX12_outcome_20 : decode cX12_outcome 20 = .ok (.bipush (-2), 2) := by decide +kernel
theorem dX12_outcome_22 : decode cX12_outcome 22 = .ok (.ireturn, 1) := by decide +kernel
theorem dX12_outcome_23 : decode cX12_outcome 23 = .ok (.aload_n 0, 1) := by decide +kernel
theorem dX12_outcome_24 : decode cX12_outcome 24 = .ok (.getfield 77, 3) := by decide +kernel
theorem dX12_outcome_27 : decode cX12_outcome 27 = .ok (.getfield 428, 3) := by decide +kernel
theorem dX12_outcome_30 : decode cX12_outcome 30 = .ok (.iload_n 1, 1) := by decide +kernel
theorem dX12_outcome_31 : decode cX12_outcome 31 = .ok (.iaload, 1) := by decide +kernel
theorem dX12_outcome_32 : decode cX12_outcome 32 = .ok (.ifCond .eq 16, 3) := by decide +kernel
theorem dX12_outcome_35 : decode cX12_outcome 35 = .ok (.aload_n 0, 1) := by decide +kernel
theorem dX12_outcome_36 : decode cX12_outcome 36 = .ok (.getfield 77, 3) := by decide +kernel
theorem dX12_outcome_39 : decode cX12_outcome 39 = .ok (.getfield 433, 3) := by decide +kernel
theorem dX12_outcome_42 : decode cX12_outcome 42 = .ok (.iload_n 1, 1) := by decide +kernel
theorem dX12_outcome_43 : decode cX12_outcome 43 = .ok (.iaload, 1) := by decide +kernel
theorem dX12_outcome_44 : decode cX12_outcome 44 = .ok (.iconst (-1), 1) := by decide +kernel
theorem dX12_outcome_45 : decode cX12_outcome 45 = .ok (.if_icmp .eq 6, 3) := by decide +kernel
theorem dX12_outcome_48 : decode cX12_outcome 48 = .ok (.bipush (-5), 2) := by decide +kernel
theorem dX12_outcome_50 : decode cX12_outcome 50 = .ok (.ireturn, 1) := by decide +kernel
theorem dX12_outcome_51 : decode cX12_outcome 51 = .ok (.aload_n 0, 1) := by decide +kernel
theorem dX12_outcome_52 : decode cX12_outcome 52 = .ok (.getfield 77, 3) := by decide +kernel
theorem dX12_outcome_55 : decode cX12_outcome 55 = .ok (.getfield 433, 3) := by decide +kernel
theorem dX12_outcome_58 : decode cX12_outcome 58 = .ok (.iload_n 1, 1) := by decide +kernel
theorem dX12_outcome_59 : decode cX12_outcome 59 = .ok (.iload_n 2, 1) := by decide +kernel
theorem dX12_outcome_60 : decode cX12_outcome 60 = .ok (.iastore, 1) := by decide +kernel
theorem dX12_outcome_61 : decode cX12_outcome 61 = .ok (.aload_n 0, 1) := by decide +kernel
theorem dX12_outcome_62 : decode cX12_outcome 62 = .ok (.iconst 5, 1) := by decide +kernel
theorem dX12_outcome_63 : decode cX12_outcome 63 = .ok (.iload_n 1, 1) := by decide +kernel
theorem dX12_outcome_64 : decode cX12_outcome 64 = .ok (.iconst 0, 1) := by decide +kernel
theorem dX12_outcome_65 : decode cX12_outcome 65 = .ok (.iconst 0, 1) := by decide +kernel
theorem dX12_outcome_66 : decode cX12_outcome 66 = .ok (.invokevirtual 412, 3) := by decide +kernel
theorem dX12_outcome_69 : decode cX12_outcome 69 = .ok (.iconst 0, 1) := by decide +kernel
theorem dX12_outcome_70 : decode cX12_outcome 70 = .ok (.ireturn, 1) := by decide +kernel
theorem dX12_overrides_0 : decode cX12_overrides 0 = .ok (.iload_n 1, 1) := by decide +kernel
theorem dX12_overrides_1 : decode cX12_overrides 1 = .ok (.ifCond .lt 8, 3) := by decide +kernel
theorem dX12_overrides_4 : decode cX12_overrides 4 = .ok (.iload_n 1, 1) := by decide +kernel
theorem dX12_overrides_5 : decode cX12_overrides 5 = .ok (.iconst 3, 1) := by decide +kernel
theorem dX12_overrides_6 : decode cX12_overrides 6 = .ok (.if_icmp .le 6, 3) := by decide +kernel
theorem dX12_overrides_9 : decode cX12_overrides 9 = .ok (.bipush (-2), 2) := by decide +kernel
theorem dX12_overrides_11 : decode cX12_overrides 11 = .ok (.ireturn, 1) := by decide +kernel
theorem dX12_overrides_12 : decode cX12_overrides 12 = .ok (.iconst 0, 1) := by decide +kernel
theorem dX12_overrides_13 : decode cX12_overrides 13 = .ok (.istore_n 2, 1) := by decide +kernel
theorem dX12_overrides_14 : decode cX12_overrides 14 = .ok (.iconst 0, 1) := by decide +kernel
theorem dX12_overrides_15 : decode cX12_overrides 15 = .ok (.istore_n 3, 1) := by decide +kernel
theorem dX12_overrides_16 : decode cX12_overrides 16 = .ok (.iload_n 3, 1) := by decide +kernel
theorem dX12_overrides_17 : decode cX12_overrides 17 = .ok (.aload_n 0, 1) := by decide +kernel
theorem dX12_overrides_18 : decode cX12_overrides 18 = .ok (.getfield 77, 3) := by decide +kernel
theorem dX12_overrides_21 : decode cX12_overrides 21 = .ok (.getfield 140, 3) := by decide +kernel
theorem dX12_overrides_24 : decode cX12_overrides 24 = .ok (.if_icmp .ge 24, 3) := by decide +kernel
theorem dX12_overrides_27 : decode cX12_overrides 27 = .ok (.aload_n 0, 1) := by decide +kernel
theorem dX12_overrides_28 : decode cX12_overrides 28 = .ok (.getfield 77, 3) := by decide +kernel
theorem dX12_overrides_31 : decode cX12_overrides 31 = .ok (.iload_n 3, 1) := by decide +kernel
theorem dX12_overrides_32 : decode cX12_overrides 32 = .ok (.iload_n 1, 1) := by decide +kernel
theorem dX12_overrides_33 : decode cX12_overrides 33 = .ok (.invokevirtual 439, 3) := by decide +kernel
theorem dX12_overrides_36 : decode cX12_overrides 36 = .ok (.ifCond .eq 6, 3) := by decide +kernel
theorem dX12_overrides_39 : decode cX12_overrides 39 = .ok (.iinc 2 1, 3) := by decide +kernel
theorem dX12_overrides_42 : decode cX12_overrides 42 = .ok (.iinc 3 1, 3) := by decide +kernel
theorem dX12_overrides_45 : decode cX12_overrides 45 = .ok (.goto (-29), 3) := by decide +kernel
theorem dX12_overrides_48 : decode cX12_overrides 48 = .ok (.iload_n 2, 1) := by decide +kernel
theorem dX12_overrides_49 : decode cX12_overrides 49 = .ok (.ireturn, 1) := by decide +kernel
theorem dX12_learn_0 : decode cX12_learn 0 = .ok (.aload_n 0, 1) := by decide +kernel
theorem dX12_learn_1 : decode cX12_learn 1 = .ok (.getfield 77, 3) := by decide +kernel
theorem dX12_learn_4 : decode cX12_learn 4 = .ok (.invokevirtual 442, 3) := by decide +kernel
theorem dX12_learn_7 : decode cX12_learn 7 = .ok (.istore_n 1, 1) := by decide +kernel
theorem dX12_learn_8 : decode cX12_learn 8 = .ok (.aload_n 0, 1) := by decide +kernel
theorem dX12_learn_9 : decode cX12_learn 9 = .ok (.getfield 77, 3) := by decide +kernel
theorem dX12_learn_12 : decode cX12_learn 12 = .ok (.iload_n 1, 1) := by decide +kernel
theorem dX12_learn_13 : decode cX12_learn 13 = .ok (.invokevirtual 445, 3) := by decide +kernel
theorem dX12_learn_16 : decode cX12_learn 16 = .ok (.istore_n 2, 1) := by decide +kernel
theorem dX12_learn_17 : decode cX12_learn 17 = .ok (.iload_n 2, 1) := by decide +kernel
theorem dX12_learn_18 : decode cX12_learn 18 = .ok (.ifCond .ne 5, 3) := by decide +kernel
theorem dX12_learn_21 : decode cX12_learn 21 = .ok (.iconst 0, 1) := by decide +kernel
theorem dX12_learn_22 : decode cX12_learn 22 = .ok (.ireturn, 1) := by decide +kernel
theorem dX12_learn_23 : decode cX12_learn 23 = .ok (.aload_n 0, 1) := by decide +kernel
theorem dX12_learn_24 : decode cX12_learn 24 = .ok (.getfield 77, 3) := by decide +kernel
theorem dX12_learn_27 : decode cX12_learn 27 = .ok (.aload_n 0, 1) := by decide +kernel
theorem dX12_learn_28 : decode cX12_learn 28 = .ok (.getfield 33, 3) := by decide +kernel
theorem dX12_learn_31 : decode cX12_learn 31 = .ok (.iload_n 1, 1) := by decide +kernel
theorem dX12_learn_32 : decode cX12_learn 32 = .ok (.iconst 1, 1) := by decide +kernel
theorem dX12_learn_33 : decode cX12_learn 33 = .ok (.invokevirtual 448, 3) := by decide +kernel
theorem dX12_learn_36 : decode cX12_learn 36 = .ok (.aload_n 0, 1) := by decide +kernel
theorem dX12_learn_37 : decode cX12_learn 37 = .ok (.getfield 33, 3) := by decide +kernel
theorem dX12_learn_40 : decode cX12_learn 40 = .ok (.invokevirtual 409, 3) := by decide +kernel
theorem dX12_learn_43 : decode cX12_learn 43 = .ok (.ifCond .ne 27, 3) := by decide +kernel
theorem dX12_learn_46 : decode cX12_learn 46 = .ok (.aload_n 0, 1) := by decide +kernel
theorem dX12_learn_47 : decode cX12_learn 47 = .ok (.getfield 77, 3) := by decide +kernel
theorem dX12_learn_50 : decode cX12_learn 50 = .ok (.aload_n 0, 1) := by decide +kernel
theorem dX12_learn_51 : decode cX12_learn 51 = .ok (.getfield 33, 3) := by decide +kernel
theorem dX12_learn_54 : decode cX12_learn 54 = .ok (.iload_n 1, 1) := by decide +kernel
theorem dX12_learn_55 : decode cX12_learn 55 = .ok (.iconst (-1), 1) := by decide +kernel
theorem dX12_learn_56 : decode cX12_learn 56 = .ok (.invokevirtual 448, 3) := by decide +kernel
theorem dX12_learn_59 : decode cX12_learn 59 = .ok (.aload_n 0, 1) := by decide +kernel
theorem dX12_learn_60 : decode cX12_learn 60 = .ok (.getfield 77, 3) := by decide +kernel
theorem dX12_learn_63 : decode cX12_learn 63 = .ok (.iload_n 1, 1) := by decide +kernel
theorem dX12_learn_64 : decode cX12_learn 64 = .ok (.invokevirtual 451, 3) := by decide +kernel
theorem dX12_learn_67 : decode cX12_learn 67 = .ok (.bipush (-5), 2) := by decide +kernel
theorem dX12_learn_69 : decode cX12_learn 69 = .ok (.ireturn, 1) := by decide +kernel
theorem dX12_learn_70 : decode cX12_learn 70 = .ok (.aload_n 0, 1) := by decide +kernel
theorem dX12_learn_71 : decode cX12_learn 71 = .ok (.bipush 6, 2) := by decide +kernel
theorem dX12_learn_73 : decode cX12_learn 73 = .ok (.iload_n 1, 1) := by decide +kernel
theorem dX12_learn_74 : decode cX12_learn 74 = .ok (.iconst 0, 1) := by decide +kernel
theorem dX12_learn_75 : decode cX12_learn 75 = .ok (.iconst 0, 1) := by decide +kernel
theorem dX12_learn_76 : decode cX12_learn 76 = .ok (.invokevirtual 412, 3) := by decide +kernel
theorem dX12_learn_79 : decode cX12_learn 79 = .ok (.iload_n 2, 1) := by decide +kernel
theorem dX12_learn_80 : decode cX12_learn 80 = .ok (.ireturn, 1) := by decide +kernel
theorem dX12_adds_0 : decode cX12_adds 0 = .ok (.iload_n 1, 1) := by decide +kernel
theorem dX12_adds_1 : decode cX12_adds 1 = .ok (.invokestatic 222, 3) := by decide +kernel
theorem dX12_adds_4 : decode cX12_adds 4 = .ok (.ifCond .eq 17, 3) := by decide +kernel
theorem dX12_adds_7 : decode cX12_adds 7 = .ok (.iload_n 2, 1) := by decide +kernel
theorem dX12_adds_8 : decode cX12_adds 8 = .ok (.invokestatic 454, 3) := by decide +kernel
theorem dX12_adds_11 : decode cX12_adds 11 = .ok (.ifCond .eq 10, 3) := by decide +kernel
theorem dX12_adds_14 : decode cX12_adds 14 = .ok (.iload_n 3, 1) := by decide +kernel
theorem dX12_adds_15 : decode cX12_adds 15 = .ok (.invokestatic 454, 3) := by decide +kernel
theorem dX12_adds_18 : decode cX12_adds 18 = .ok (.ifCond .ne 6, 3) := by decide +kernel
theorem dX12_adds_21 : decode cX12_adds 21 = .ok (.bipush (-2), 2) := by decide +kernel
theorem dX12_adds_23 : decode cX12_adds 23 = .ok (.ireturn, 1) := by decide +kernel
theorem dX12_adds_24 : decode cX12_adds 24 = .ok (.iload_n 2, 1) := by decide +kernel
theorem dX12_adds_25 : decode cX12_adds 25 = .ok (.ifCond .ne 9, 3) := by decide +kernel
theorem dX12_adds_28 : decode cX12_adds 28 = .ok (.iload_n 3, 1) := by decide +kernel
theorem dX12_adds_29 : decode cX12_adds 29 = .ok (.ifCond .ne 5, 3) := by decide +kernel
theorem dX12_adds_32 : decode cX12_adds 32 = .ok (.iconst 0, 1) := by decide +kernel
theorem dX12_adds_33 : decode cX12_adds 33 = .ok (.ireturn, 1) := by decide +kernel
theorem dX12_adds_34 : decode cX12_adds 34 = .ok (.aload_n 0, 1) := by decide +kernel
theorem dX12_adds_35 : decode cX12_adds 35 = .ok (.getfield 33, 3) := by decide +kernel
theorem dX12_adds_38 : decode cX12_adds 38 = .ok (.iload_n 1, 1) := by decide +kernel
theorem dX12_adds_39 : decode cX12_adds 39 = .ok (.iload_n 2, 1) := by decide +kernel
theorem dX12_adds_40 : decode cX12_adds 40 = .ok (.iload_n 3, 1) := by decide +kernel
theorem dX12_adds_41 : decode cX12_adds 41 = .ok (.invokevirtual 457, 3) := by decide +kernel
theorem dX12_adds_44 : decode cX12_adds 44 = .ok (.aload_n 0, 1) := by decide +kernel
theorem dX12_adds_45 : decode cX12_adds 45 = .ok (.getfield 33, 3) := by decide +kernel
theorem dX12_adds_48 : decode cX12_adds 48 = .ok (.invokevirtual 409, 3) := by decide +kernel
theorem dX12_adds_51 : decode cX12_adds 51 = .ok (.ifCond .ne 18, 3) := by decide +kernel
theorem dX12_adds_54 : decode cX12_adds 54 = .ok (.aload_n 0, 1) := by decide +kernel
theorem dX12_adds_55 : decode cX12_adds 55 = .ok (.getfield 33, 3) := by decide +kernel
theorem dX12_adds_58 : decode cX12_adds 58 = .ok (.iload_n 1, 1) := by decide +kernel
theorem dX12_adds_59 : decode cX12_adds 59 = .ok (.iload_n 2, 1) := by decide +kernel
theorem dX12_adds_60 : decode cX12_adds 60 = .ok (.ineg, 1) := by decide +kernel
theorem dX12_adds_61 : decode cX12_adds 61 = .ok (.iload_n 3, 1) := by decide +kernel
theorem dX12_adds_62 : decode cX12_adds 62 = .ok (.ineg, 1) := by decide +kernel
theorem dX12_adds_63 : decode cX12_adds 63 = .ok (.invokevirtual 457, 3) := by decide +kernel
theorem dX12_adds_66 : decode cX12_adds 66 = .ok (.bipush (-5), 2) := by decide +kernel
theorem dX12_adds_68 : decode cX12_adds 68 = .ok (.ireturn, 1) := by decide +kernel
theorem dX12_adds_69 : decode cX12_adds 69 = .ok (.aload_n 0, 1) := by decide +kernel
theorem dX12_adds_70 : decode cX12_adds 70 = .ok (.iconst 1, 1) := by decide +kernel
theorem dX12_adds_71 : decode cX12_adds 71 = .ok (.iload_n 1, 1) := by decide +kernel
theorem dX12_adds_72 : decode cX12_adds 72 = .ok (.iload_n 2, 1) := by decide +kernel
theorem dX12_adds_73 : decode cX12_adds 73 = .ok (.iload_n 3, 1) := by decide +kernel
theorem dX12_adds_74 : decode cX12_adds 74 = .ok (.invokevirtual 412, 3) := by decide +kernel
theorem dX12_adds_77 : decode cX12_adds 77 = .ok (.iconst 1, 1) := by decide +kernel
theorem dX12_adds_78 : decode cX12_adds 78 = .ok (.ireturn, 1) := by decide +kernel
theorem dX12_sets_0 : decode cX12_sets 0 = .ok (.iload_n 1, 1) := by decide +kernel
theorem dX12_sets_1 : decode cX12_sets 1 = .ok (.ifCond .ne 22, 3) := by decide +kernel
theorem dX12_sets_4 : decode cX12_sets 4 = .ok (.iload_n 2, 1) := by decide +kernel
theorem dX12_sets_5 : decode cX12_sets 5 = .ok (.ifCond .lt 14, 3) := by decide +kernel
theorem dX12_sets_8 : decode cX12_sets 8 = .ok (.iload_n 2, 1) := by decide +kernel
theorem dX12_sets_9 : decode cX12_sets 9 = .ok (.sipush 9999, 3) := by decide +kernel
theorem dX12_sets_12 : decode cX12_sets 12 = .ok (.if_icmp .gt 7, 3) := by decide +kernel
theorem dX12_sets_15 : decode cX12_sets 15 = .ok (.iconst 1, 1) := by decide +kernel
theorem dX12_sets_16 : decode cX12_sets 16 = .ok (.goto 28, 3) := by decide +kernel
theorem dX12_sets_19 : decode cX12_sets 19 = .ok (.iconst 0, 1) := by decide +kernel
theorem dX12_sets_20 : decode cX12_sets 20 = .ok (.goto 24, 3) := by decide +kernel
theorem dX12_sets_23 : decode cX12_sets 23 = .ok (.iload_n 1, 1) := by decide +kernel
theorem dX12_sets_24 : decode cX12_sets 24 = .ok (.iconst 1, 1) := by decide +kernel
theorem dX12_sets_25 : decode cX12_sets 25 = .ok (.if_icmp .ne 18, 3) := by decide +kernel
theorem dX12_sets_28 : decode cX12_sets 28 = .ok (.iload_n 2, 1) := by decide +kernel
theorem dX12_sets_29 : decode cX12_sets 29 = .ok (.iconst 1, 1) := by decide +kernel
theorem dX12_sets_30 : decode cX12_sets 30 = .ok (.if_icmp .lt 13, 3) := by decide +kernel
theorem dX12_sets_33 : decode cX12_sets 33 = .ok (.iload_n 2, 1) := by decide +kernel
theorem dX12_sets_34 : decode cX12_sets 34 = .ok (.bipush 60, 2) := by decide +kernel
theorem dX12_sets_36 : decode cX12_sets 36 = .ok (.if_icmp .gt 7, 3) := by decide +kernel
theorem dX12_sets_39 : decode cX12_sets 39 = .ok (.iconst 1, 1) := by decide +kernel
theorem dX12_sets_40 : decode cX12_sets 40 = .ok (.goto 4, 3) := by decide +kernel
theorem dX12_sets_43 : decode cX12_sets 43 = .ok (.iconst 0, 1) := by decide +kernel
theorem dX12_sets_44 : decode cX12_sets 44 = .ok (.istore_n 3, 1) := by decide +kernel
theorem dX12_sets_45 : decode cX12_sets 45 = .ok (.iload_n 3, 1) := by decide +kernel
theorem dX12_sets_46 : decode cX12_sets 46 = .ok (.ifCond .ne 6, 3) := by decide +kernel
theorem dX12_sets_49 : decode cX12_sets 49 = .ok (.bipush (-2), 2) := by decide +kernel
theorem dX12_sets_51 : decode cX12_sets 51 = .ok (.ireturn, 1) := by decide +kernel
theorem dX12_sets_52 : decode cX12_sets 52 = .ok (.iload_n 1, 1) := by decide +kernel
theorem dX12_sets_53 : decode cX12_sets 53 = .ok (.ifCond .ne 13, 3) := by decide +kernel
theorem dX12_sets_56 : decode cX12_sets 56 = .ok (.aload_n 0, 1) := by decide +kernel
theorem dX12_sets_57 : decode cX12_sets 57 = .ok (.getfield 33, 3) := by decide +kernel
theorem dX12_sets_60 : decode cX12_sets 60 = .ok (.getfield 163, 3) := by decide +kernel
theorem dX12_sets_63 : decode cX12_sets 63 = .ok (.goto 10, 3) := by decide +kernel
theorem dX12_sets_66 : decode cX12_sets 66 = .ok (.aload_n 0, 1) := by decide +kernel
theorem dX12_sets_67 : decode cX12_sets 67 = .ok (.getfield 33, 3) := by decide +kernel
theorem dX12_sets_70 : decode cX12_sets 70 = .ok (.getfield 166, 3) := by decide +kernel
theorem dX12_sets_73 : decode cX12_sets 73 = .ok (.istore 4, 2) := by decide +kernel
theorem dX12_sets_75 : decode cX12_sets 75 = .ok (.iload_n 2, 1) := by decide +kernel
theorem dX12_sets_76 : decode cX12_sets 76 = .ok (.iload 4, 2) := by decide +kernel
theorem dX12_sets_78 : decode cX12_sets 78 = .ok (.if_icmp .eq 21, 3) := by decide +kernel
theorem dX12_sets_81 : decode cX12_sets 81 = .ok (.aload_n 0, 1) := by decide +kernel
theorem dX12_sets_82 : decode cX12_sets 82 = .ok (.getfield 33, 3) := by decide +kernel
theorem dX12_sets_85 : decode cX12_sets 85 = .ok (.iload_n 1, 1) := by decide +kernel
theorem dX12_sets_86 : decode cX12_sets 86 = .ok (.iload_n 2, 1) := by decide +kernel
theorem dX12_sets_87 : decode cX12_sets 87 = .ok (.invokevirtual 459, 3) := by decide +kernel
theorem dX12_sets_90 : decode cX12_sets 90 = .ok (.aload_n 0, 1) := by decide +kernel
theorem dX12_sets_91 : decode cX12_sets 91 = .ok (.iconst 2, 1) := by decide +kernel
theorem dX12_sets_92 : decode cX12_sets 92 = .ok (.iload_n 1, 1) := by decide +kernel
theorem dX12_sets_93 : decode cX12_sets 93 = .ok (.iload 4, 2) := by decide +kernel
theorem dX12_sets_95 : decode cX12_sets 95 = .ok (.iconst 0, 1) := by decide +kernel
theorem dX12_sets_96 : decode cX12_sets 96 = .ok (.invokevirtual 412, 3) := by decide +kernel
theorem dX12_sets_99 : decode cX12_sets 99 = .ok (.iload 4, 2) := by decide +kernel
theorem dX12_sets_101 : decode cX12_sets 101 = .ok (.ireturn, 1) := by decide +kernel
theorem dX12_costs_0 : decode cX12_costs 0 = .ok (.iload_n 1, 1) := by decide +kernel
theorem dX12_costs_1 : decode cX12_costs 1 = .ok (.invokestatic 313, 3) := by decide +kernel
theorem dX12_costs_4 : decode cX12_costs 4 = .ok (.ifCond .eq 17, 3) := by decide +kernel
theorem dX12_costs_7 : decode cX12_costs 7 = .ok (.iload_n 2, 1) := by decide +kernel
theorem dX12_costs_8 : decode cX12_costs 8 = .ok (.invokestatic 313, 3) := by decide +kernel
theorem dX12_costs_11 : decode cX12_costs 11 = .ok (.ifCond .eq 10, 3) := by decide +kernel
theorem dX12_costs_14 : decode cX12_costs 14 = .ok (.iload_n 3, 1) := by decide +kernel
theorem dX12_costs_15 : decode cX12_costs 15 = .ok (.invokestatic 313, 3) := by decide +kernel
theorem dX12_costs_18 : decode cX12_costs 18 = .ok (.ifCond .ne 6, 3) := by decide +kernel
theorem dX12_costs_21 : decode cX12_costs 21 = .ok (.bipush (-2), 2) := by decide +kernel
theorem dX12_costs_23 : decode cX12_costs 23 = .ok (.ireturn, 1) := by decide +kernel
theorem dX12_costs_24 : decode cX12_costs 24 = .ok (.iload_n 1, 1) := by decide +kernel
theorem dX12_costs_25 : decode cX12_costs 25 = .ok (.aload_n 0, 1) := by decide +kernel
theorem dX12_costs_26 : decode cX12_costs 26 = .ok (.getfield 33, 3) := by decide +kernel
theorem dX12_costs_29 : decode cX12_costs 29 = .ok (.getfield 169, 3) := by decide +kernel
theorem dX12_costs_32 : decode cX12_costs 32 = .ok (.if_icmp .ne 27, 3) := by decide +kernel
theorem dX12_costs_35 : decode cX12_costs 35 = .ok (.iload_n 2, 1) := by decide +kernel
theorem dX12_costs_36 : decode cX12_costs 36 = .ok (.aload_n 0, 1) := by decide +kernel
theorem dX12_costs_37 : decode cX12_costs 37 = .ok (.getfield 33, 3) := by decide +kernel
theorem dX12_costs_40 : decode cX12_costs 40 = .ok (.getfield 172, 3) := by decide +kernel
theorem dX12_costs_43 : decode cX12_costs 43 = .ok (.if_icmp .ne 16, 3) := by decide +kernel
theorem dX12_costs_46 : decode cX12_costs 46 = .ok (.iload_n 3, 1) := by decide +kernel
theorem dX12_costs_47 : decode cX12_costs 47 = .ok (.aload_n 0, 1) := by decide +kernel
theorem dX12_costs_48 : decode cX12_costs 48 = .ok (.getfield 33, 3) := by decide +kernel
theorem dX12_costs_51 : decode cX12_costs 51 = .ok (.getfield 175, 3) := by decide +kernel
theorem dX12_costs_54 : decode cX12_costs 54 = .ok (.if_icmp .ne 5, 3) := by decide +kernel
theorem dX12_costs_57 : decode cX12_costs 57 = .ok (.iconst 0, 1) := by decide +kernel
theorem dX12_costs_58 : decode cX12_costs 58 = .ok (.ireturn, 1) := by decide +kernel
theorem dX12_costs_59 : decode cX12_costs 59 = .ok (.aload_n 0, 1) := by decide +kernel
theorem dX12_costs_60 : decode cX12_costs 60 = .ok (.iconst 3, 1) := by decide +kernel
theorem dX12_costs_61 : decode cX12_costs 61 = .ok (.aload_n 0, 1) := by decide +kernel
theorem dX12_costs_62 : decode cX12_costs 62 = .ok (.getfield 33, 3) := by decide +kernel
theorem dX12_costs_65 : decode cX12_costs 65 = .ok (.getfield 169, 3) := by decide +kernel
theorem dX12_costs_68 : decode cX12_costs 68 = .ok (.aload_n 0, 1) := by decide +kernel
theorem dX12_costs_69 : decode cX12_costs 69 = .ok (.getfield 33, 3) := by decide +kernel
theorem dX12_costs_72 : decode cX12_costs 72 = .ok (.getfield 172, 3) := by decide +kernel
theorem dX12_costs_75 : decode cX12_costs 75 = .ok (.aload_n 0, 1) := by decide +kernel
theorem dX12_costs_76 : decode cX12_costs 76 = .ok (.getfield 33, 3) := by decide +kernel
theorem dX12_costs_79 : decode cX12_costs 79 = .ok (.getfield 175, 3) := by decide +kernel
theorem dX12_costs_82 : decode cX12_costs 82 = .ok (.invokevirtual 412, 3) := by decide +kernel
theorem dX12_costs_85 : decode cX12_costs 85 = .ok (.aload_n 0, 1) := by decide +kernel
theorem dX12_costs_86 : decode cX12_costs 86 = .ok (.getfield 33, 3) := by decide +kernel
theorem dX12_costs_89 : decode cX12_costs 89 = .ok (.iload_n 1, 1) := by decide +kernel
theorem dX12_costs_90 : decode cX12_costs 90 = .ok (.iload_n 2, 1) := by decide +kernel
theorem dX12_costs_91 : decode cX12_costs 91 = .ok (.iload_n 3, 1) := by decide +kernel
theorem dX12_costs_92 : decode cX12_costs 92 = .ok (.invokevirtual 463, 3) := by decide +kernel
theorem dX12_costs_95 : decode cX12_costs 95 = .ok (.iconst 1, 1) := by decide +kernel
theorem dX12_costs_96 : decode cX12_costs 96 = .ok (.ireturn, 1) := by decide +kernel
theorem dX12_undo_0 : decode cX12_undo 0 = .ok (.aload_n 0, 1) := by decide +kernel
theorem dX12_undo_1 : decode cX12_undo 1 = .ok (.getfield 84, 3) := by decide +kernel
theorem dX12_undo_4 : decode cX12_undo 4 = .ok (.getfield 141, 3) := by decide +kernel
theorem dX12_undo_7 : decode cX12_undo 7 = .ok (.ifCond .ne 5, 3) := by decide +kernel
theorem dX12_undo_10 : decode cX12_undo 10 = .ok (.iconst (-1), 1) := by decide +kernel
theorem dX12_undo_11 : decode cX12_undo 11 = .ok (.ireturn, 1) := by decide +kernel
theorem dX12_undo_12 : decode cX12_undo 12 = .ok (.aload_n 0, 1) := by decide +kernel
theorem dX12_undo_13 : decode cX12_undo 13 = .ok (.getfield 84, 3) := by decide +kernel
theorem dX12_undo_16 : decode cX12_undo 16 = .ok (.dup, 1) := by decide +kernel
theorem dX12_undo_17 : decode cX12_undo 17 = .ok (.getfield 141, 3) := by decide +kernel
theorem dX12_undo_20 : decode cX12_undo 20 = .ok (.iconst 1, 1) := by decide +kernel
theorem dX12_undo_21 : decode cX12_undo 21 = .ok (.isub, 1) := by decide +kernel
theorem dX12_undo_22 : decode cX12_undo 22 = .ok (.putfield 141, 3) := by decide +kernel
theorem dX12_undo_25 : decode cX12_undo 25 = .ok (.aload_n 0, 1) := by decide +kernel
theorem dX12_undo_26 : decode cX12_undo 26 = .ok (.getfield 84, 3) := by decide +kernel
theorem dX12_undo_29 : decode cX12_undo 29 = .ok (.getfield 141, 3) := by decide +kernel
theorem dX12_undo_32 : decode cX12_undo 32 = .ok (.istore_n 1, 1) := by decide +kernel
theorem dX12_undo_33 : decode cX12_undo 33 = .ok (.aload_n 0, 1) := by decide +kernel
theorem dX12_undo_34 : decode cX12_undo 34 = .ok (.aload_n 0, 1) := by decide +kernel
theorem dX12_undo_35 : decode cX12_undo 35 = .ok (.getfield 84, 3) := by decide +kernel
theorem dX12_undo_38 : decode cX12_undo 38 = .ok (.getfield 466, 3) := by decide +kernel
theorem dX12_undo_41 : decode cX12_undo 41 = .ok (.iload_n 1, 1) := by decide +kernel
theorem dX12_undo_42 : decode cX12_undo 42 = .ok (.iaload, 1) := by decide +kernel
theorem dX12_undo_43 : decode cX12_undo 43 = .ok (.aload_n 0, 1) := by decide +kernel
theorem dX12_undo_44 : decode cX12_undo 44 = .ok (.getfield 84, 3) := by decide +kernel
theorem dX12_undo_47 : decode cX12_undo 47 = .ok (.getfield 469, 3) := by decide +kernel
theorem dX12_undo_50 : decode cX12_undo 50 = .ok (.iload_n 1, 1) := by decide +kernel
theorem dX12_undo_51 : decode cX12_undo 51 = .ok (.iaload, 1) := by decide +kernel
theorem dX12_undo_52 : decode cX12_undo 52 = .ok (.aload_n 0, 1) := by decide +kernel
theorem dX12_undo_53 : decode cX12_undo 53 = .ok (.getfield 84, 3) := by decide +kernel
theorem dX12_undo_56 : decode cX12_undo 56 = .ok (.getfield 472, 3) := by decide +kernel
theorem dX12_undo_59 : decode cX12_undo 59 = .ok (.iload_n 1, 1) := by decide +kernel
theorem dX12_undo_60 : decode cX12_undo 60 = .ok (.iaload, 1) := by decide +kernel
theorem dX12_undo_61 : decode cX12_undo 61 = .ok (.aload_n 0, 1) := by decide +kernel
theorem dX12_undo_62 : decode cX12_undo 62 = .ok (.getfield 84, 3) := by decide +kernel
theorem dX12_undo_65 : decode cX12_undo 65 = .ok (.getfield 475, 3) := by decide +kernel
theorem dX12_undo_68 : decode cX12_undo 68 = .ok (.iload_n 1, 1) := by decide +kernel
theorem dX12_undo_69 : decode cX12_undo 69 = .ok (.iaload, 1) := by decide +kernel
theorem dX12_undo_70 : decode cX12_undo 70 = .ok (.invokevirtual 478, 3) := by decide +kernel
theorem dX12_undo_73 : decode cX12_undo 73 = .ok (.aload_n 0, 1) := by decide +kernel
theorem dX12_undo_74 : decode cX12_undo 74 = .ok (.iconst 0, 1) := by decide +kernel
theorem dX12_undo_75 : decode cX12_undo 75 = .ok (.putfield 116, 3) := by decide +kernel
theorem dX12_undo_78 : decode cX12_undo 78 = .ok (.aload_n 0, 1) := by decide +kernel
theorem dX12_undo_79 : decode cX12_undo 79 = .ok (.getfield 84, 3) := by decide +kernel
theorem dX12_undo_82 : decode cX12_undo 82 = .ok (.getfield 141, 3) := by decide +kernel
theorem dX12_undo_85 : decode cX12_undo 85 = .ok (.ireturn, 1) := by decide +kernel
theorem dX12_turnBack_0 : decode cX12_turnBack 0 = .ok (.iload_n 1, 1) := by decide +kernel
theorem dX12_turnBack_1 : decode cX12_turnBack 1 = .ok (.tableswitch 145 1 7 #[43, 59, 71, 85, 95, 106, 130], 43) := by decide +kernel
theorem dX12_turnBack_44 : decode cX12_turnBack 44 = .ok (.aload_n 0, 1) := by decide +kernel
theorem dX12_turnBack_45 : decode cX12_turnBack 45 = .ok (.getfield 33, 3) := by decide +kernel
theorem dX12_turnBack_48 : decode cX12_turnBack 48 = .ok (.iload_n 2, 1) := by decide +kernel
theorem dX12_turnBack_49 : decode cX12_turnBack 49 = .ok (.iload_n 3, 1) := by decide +kernel
theorem dX12_turnBack_50 : decode cX12_turnBack 50 = .ok (.ineg, 1) := by decide +kernel
theorem dX12_turnBack_51 : decode cX12_turnBack 51 = .ok (.iload 4, 2) := by decide +kernel
theorem dX12_turnBack_53 : decode cX12_turnBack 53 = .ok (.ineg, 1) := by decide +kernel
theorem dX12_turnBack_54 : decode cX12_turnBack 54 = .ok (.invokevirtual 457, 3) := by decide +kernel
theorem dX12_turnBack_57 : decode cX12_turnBack 57 = .ok (.goto 89, 3) := by decide +kernel
theorem dX12_turnBack_60 : decode cX12_turnBack 60 = .ok (.aload_n 0, 1) := by decide +kernel
theorem dX12_turnBack_61 : decode cX12_turnBack 61 = .ok (.getfield 33, 3) := by decide +kernel
theorem dX12_turnBack_64 : decode cX12_turnBack 64 = .ok (.iload_n 2, 1) := by decide +kernel
theorem dX12_turnBack_65 : decode cX12_turnBack 65 = .ok (.iload_n 3, 1) := by decide +kernel
theorem dX12_turnBack_66 : decode cX12_turnBack 66 = .ok (.invokevirtual 459, 3) := by decide +kernel
theorem dX12_turnBack_69 : decode cX12_turnBack 69 = .ok (.goto 77, 3) := by decide +kernel
theorem dX12_turnBack_72 : decode cX12_turnBack 72 = .ok (.aload_n 0, 1) := by decide +kernel
theorem dX12_turnBack_73 : decode cX12_turnBack 73 = .ok (.getfield 33, 3) := by decide +kernel
theorem dX12_turnBack_76 : decode cX12_turnBack 76 = .ok (.iload_n 2, 1) := by decide +kernel
theorem dX12_turnBack_77 : decode cX12_turnBack 77 = .ok (.iload_n 3, 1) := by decide +kernel
theorem dX12_turnBack_78 : decode cX12_turnBack 78 = .ok (.iload 4, 2) := by decide +kernel
theorem dX12_turnBack_80 : decode cX12_turnBack 80 = .ok (.invokevirtual 463, 3) := by decide +kernel
theorem dX12_turnBack_83 : decode cX12_turnBack 83 = .ok (.goto 63, 3) := by decide +kernel
theorem dX12_turnBack_86 : decode cX12_turnBack 86 = .ok (.aload_n 0, 1) := by decide +kernel
theorem dX12_turnBack_87 : decode cX12_turnBack 87 = .ok (.getfield 77, 3) := by decide +kernel
theorem dX12_turnBack_90 : decode cX12_turnBack 90 = .ok (.invokevirtual 481, 3) := by decide +kernel
theorem dX12_turnBack_93 : decode cX12_turnBack 93 = .ok (.goto 53, 3) := by decide +kernel
theorem dX12_turnBack_96 : decode cX12_turnBack 96 = .ok (.aload_n 0, 1) := by decide +kernel
theorem dX12_turnBack_97 : decode cX12_turnBack 97 = .ok (.getfield 77, 3) := by decide +kernel
theorem dX12_turnBack_100 : decode cX12_turnBack 100 = .ok (.iload_n 2, 1) := by decide +kernel
theorem dX12_turnBack_101 : decode cX12_turnBack 101 = .ok (.invokevirtual 484, 3) := by decide +kernel
theorem dX12_turnBack_104 : decode cX12_turnBack 104 = .ok (.goto 42, 3) := by decide +kernel
theorem dX12_turnBack_107 : decode cX12_turnBack 107 = .ok (.aload_n 0, 1) := by decide +kernel
theorem dX12_turnBack_108 : decode cX12_turnBack 108 = .ok (.getfield 77, 3) := by decide +kernel
theorem dX12_turnBack_111 : decode cX12_turnBack 111 = .ok (.aload_n 0, 1) := by decide +kernel
theorem dX12_turnBack_112 : decode cX12_turnBack 112 = .ok (.getfield 33, 3) := by decide +kernel
theorem dX12_turnBack_115 : decode cX12_turnBack 115 = .ok (.iload_n 2, 1) := by decide +kernel
theorem dX12_turnBack_116 : decode cX12_turnBack 116 = .ok (.iconst (-1), 1) := by decide +kernel
theorem dX12_turnBack_117 : decode cX12_turnBack 117 = .ok (.invokevirtual 448, 3) := by decide +kernel
theorem dX12_turnBack_120 : decode cX12_turnBack 120 = .ok (.aload_n 0, 1) := by decide +kernel
theorem dX12_turnBack_121 : decode cX12_turnBack 121 = .ok (.getfield 77, 3) := by decide +kernel
theorem dX12_turnBack_124 : decode cX12_turnBack 124 = .ok (.iload_n 2, 1) := by decide +kernel
theorem dX12_turnBack_125 : decode cX12_turnBack 125 = .ok (.invokevirtual 451, 3) := by decide +kernel
theorem dX12_turnBack_128 : decode cX12_turnBack 128 = .ok (.goto 18, 3) := by decide +kernel
theorem dX12_turnBack_131 : decode cX12_turnBack 131 = .ok (.aload_n 0, 1) := by decide +kernel
theorem dX12_turnBack_132 : decode cX12_turnBack 132 = .ok (.getfield 70, 3) := by decide +kernel
theorem dX12_turnBack_135 : decode cX12_turnBack 135 = .ok (.aload_n 0, 1) := by decide +kernel
theorem dX12_turnBack_136 : decode cX12_turnBack 136 = .ok (.getfield 33, 3) := by decide +kernel
theorem dX12_turnBack_139 : decode cX12_turnBack 139 = .ok (.iconst (-1), 1) := by decide +kernel
theorem dX12_turnBack_140 : decode cX12_turnBack 140 = .ok (.invokevirtual 405, 3) := by decide +kernel
theorem dX12_turnBack_143 : decode cX12_turnBack 143 = .ok (.goto 3, 3) := by decide +kernel
theorem dX12_turnBack_146 : decode cX12_turnBack 146 = .ok (.return_, 1) := by decide +kernel
theorem dX12_acted_0 : decode cX12_acted 0 = .ok (.aload_n 0, 1) := by decide +kernel
theorem dX12_acted_1 : decode cX12_acted 1 = .ok (.getfield 84, 3) := by decide +kernel
theorem dX12_acted_4 : decode cX12_acted 4 = .ok (.iload_n 1, 1) := by decide +kernel
theorem dX12_acted_5 : decode cX12_acted 5 = .ok (.iload_n 2, 1) := by decide +kernel
theorem dX12_acted_6 : decode cX12_acted 6 = .ok (.iload_n 3, 1) := by decide +kernel
theorem dX12_acted_7 : decode cX12_acted 7 = .ok (.iload 4, 2) := by decide +kernel
theorem dX12_acted_9 : decode cX12_acted 9 = .ok (.invokevirtual 487, 3) := by decide +kernel
theorem dX12_acted_12 : decode cX12_acted 12 = .ok (.aload_n 0, 1) := by decide +kernel
theorem dX12_acted_13 : decode cX12_acted 13 = .ok (.iconst 0, 1) := by decide +kernel
theorem dX12_acted_14 : decode cX12_acted 14 = .ok (.putfield 116, 3) := by decide +kernel
theorem dX12_acted_17 : decode cX12_acted 17 = .ok (.return_, 1) := by decide +kernel
theorem dX12_settle_0 : decode cX12_settle 0 = .ok (.aload_n 0, 1) := by decide +kernel
theorem dX12_settle_1 : decode cX12_settle 1 = .ok (.getfield 116, 3) := by decide +kernel
theorem dX12_settle_4 : decode cX12_settle 4 = .ok (.ifCond .eq 4, 3) := by decide +kernel
theorem dX12_settle_7 : decode cX12_settle 7 = .ok (.return_, 1) := by decide +kernel
theorem dX12_settle_8 : decode cX12_settle 8 = .ok (.aload_n 0, 1) := by decide +kernel
theorem dX12_settle_9 : decode cX12_settle 9 = .ok (.getfield 40, 3) := by decide +kernel
theorem dX12_settle_12 : decode cX12_settle 12 = .ok (.aload_n 0, 1) := by decide +kernel
theorem dX12_settle_13 : decode cX12_settle 13 = .ok (.getfield 33, 3) := by decide +kernel
theorem dX12_settle_16 : decode cX12_settle 16 = .ok (.invokevirtual 489, 3) := by decide +kernel
theorem dX12_settle_19 : decode cX12_settle 19 = .ok (.aload_n 0, 1) := by decide +kernel
theorem dX12_settle_20 : decode cX12_settle 20 = .ok (.getfield 47, 3) := by decide +kernel
theorem dX12_settle_23 : decode cX12_settle 23 = .ok (.aload_n 0, 1) := by decide +kernel
theorem dX12_settle_24 : decode cX12_settle 24 = .ok (.getfield 40, 3) := by decide +kernel
theorem dX12_settle_27 : decode cX12_settle 27 = .ok (.invokevirtual 358, 3) := by decide +kernel
theorem dX12_settle_30 : decode cX12_settle 30 = .ok (.aload_n 0, 1) := by decide +kernel
theorem dX12_settle_31 : decode cX12_settle 31 = .ok (.getfield 51, 3) := by decide +kernel
theorem dX12_settle_34 : decode cX12_settle 34 = .ok (.aload_n 0, 1) := by decide +kernel
theorem dX12_settle_35 : decode cX12_settle 35 = .ok (.getfield 47, 3) := by decide +kernel
theorem dX12_settle_38 : decode cX12_settle 38 = .ok (.invokevirtual 493, 3) := by decide +kernel
theorem dX12_settle_41 : decode cX12_settle 41 = .ok (.aload_n 0, 1) := by decide +kernel
theorem dX12_settle_42 : decode cX12_settle 42 = .ok (.getfield 51, 3) := by decide +kernel
theorem dX12_settle_45 : decode cX12_settle 45 = .ok (.aload_n 0, 1) := by decide +kernel
theorem dX12_settle_46 : decode cX12_settle 46 = .ok (.getfield 33, 3) := by decide +kernel
theorem dX12_settle_49 : decode cX12_settle 49 = .ok (.getfield 163, 3) := by decide +kernel
theorem dX12_settle_52 : decode cX12_settle 52 = .ok (.invokevirtual 497, 3) := by decide +kernel
theorem dX12_settle_55 : decode cX12_settle 55 = .ok (.aload_n 0, 1) := by decide +kernel
theorem dX12_settle_56 : decode cX12_settle 56 = .ok (.getfield 51, 3) := by decide +kernel
theorem dX12_settle_59 : decode cX12_settle 59 = .ok (.aload_n 0, 1) := by decide +kernel
theorem dX12_settle_60 : decode cX12_settle 60 = .ok (.getfield 33, 3) := by decide +kernel
theorem dX12_settle_63 : decode cX12_settle 63 = .ok (.getfield 166, 3) := by decide +kernel
theorem dX12_settle_66 : decode cX12_settle 66 = .ok (.invokevirtual 500, 3) := by decide +kernel
theorem dX12_settle_69 : decode cX12_settle 69 = .ok (.aload_n 0, 1) := by decide +kernel
theorem dX12_settle_70 : decode cX12_settle 70 = .ok (.getfield 105, 3) := by decide +kernel
theorem dX12_settle_73 : decode cX12_settle 73 = .ok (.ifnull 10, 3) := by decide +kernel
theorem dX12_settle_76 : decode cX12_settle 76 = .ok (.aload_n 0, 1) := by decide +kernel
theorem dX12_settle_77 : decode cX12_settle 77 = .ok (.getfield 105, 3) := by decide +kernel
theorem dX12_settle_80 : decode cX12_settle 80 = .ok (.invokevirtual 503, 3) := by decide +kernel
theorem dX12_settle_83 : decode cX12_settle 83 = .ok (.aload_n 0, 1) := by decide +kernel
theorem dX12_settle_84 : decode cX12_settle 84 = .ok (.iconst 1, 1) := by decide +kernel
theorem dX12_settle_85 : decode cX12_settle 85 = .ok (.putfield 116, 3) := by decide +kernel
theorem dX12_settle_88 : decode cX12_settle 88 = .ok (.return_, 1) := by decide +kernel
theorem dX12_splitsUpTo_0 : decode cX12_splitsUpTo 0 = .ok (.aload_n 0, 1) := by decide +kernel
theorem dX12_splitsUpTo_1 : decode cX12_splitsUpTo 1 = .ok (.getfield 105, 3) := by decide +kernel
theorem dX12_splitsUpTo_4 : decode cX12_splitsUpTo 4 = .ok (.ifnonnull 14, 3) := by decide +kernel
theorem dX12_splitsUpTo_7 : decode cX12_splitsUpTo 7 = .ok (.aload_n 0, 1) := by decide +kernel
theorem dX12_splitsUpTo_8 : decode cX12_splitsUpTo 8 = .ok (.new 371, 3) := by decide +kernel
theorem dX12_splitsUpTo_11 : decode cX12_splitsUpTo 11 = .ok (.dup, 1) := by decide +kernel
theorem dX12_splitsUpTo_12 : decode cX12_splitsUpTo 12 = .ok (.invokespecial 506, 3) := by decide +kernel
theorem dX12_splitsUpTo_15 : decode cX12_splitsUpTo 15 = .ok (.putfield 105, 3) := by decide +kernel
theorem dX12_splitsUpTo_18 : decode cX12_splitsUpTo 18 = .ok (.aload_n 0, 1) := by decide +kernel
theorem dX12_splitsUpTo_19 : decode cX12_splitsUpTo 19 = .ok (.getfield 105, 3) := by decide +kernel
theorem dX12_splitsUpTo_22 : decode cX12_splitsUpTo 22 = .ok (.aload_n 0, 1) := by decide +kernel
theorem dX12_splitsUpTo_23 : decode cX12_splitsUpTo 23 = .ok (.getfield 40, 3) := by decide +kernel
theorem dX12_splitsUpTo_26 : decode cX12_splitsUpTo 26 = .ok (.iload_n 1, 1) := by decide +kernel
theorem dX12_splitsUpTo_27 : decode cX12_splitsUpTo 27 = .ok (.invokevirtual 507, 3) := by decide +kernel
theorem dX12_splitsUpTo_30 : decode cX12_splitsUpTo 30 = .ok (.aload_n 0, 1) := by decide +kernel
theorem dX12_splitsUpTo_31 : decode cX12_splitsUpTo 31 = .ok (.getfield 105, 3) := by decide +kernel
theorem dX12_splitsUpTo_34 : decode cX12_splitsUpTo 34 = .ok (.areturn, 1) := by decide +kernel
theorem dX12_spreadOf_0 : decode cX12_spreadOf 0 = .ok (.aload_n 0, 1) := by decide +kernel
theorem dX12_spreadOf_1 : decode cX12_spreadOf 1 = .ok (.getfield 101, 3) := by decide +kernel
theorem dX12_spreadOf_4 : decode cX12_spreadOf 4 = .ok (.iconst 0, 1) := by decide +kernel
theorem dX12_spreadOf_5 : decode cX12_spreadOf 5 = .ok (.invokestatic 511, 3) := by decide +kernel
theorem dX12_spreadOf_8 : decode cX12_spreadOf 8 = .ok (.iconst 0, 1) := by decide +kernel
theorem dX12_spreadOf_9 : decode cX12_spreadOf 9 = .ok (.istore_n 2, 1) := by decide +kernel
theorem dX12_spreadOf_10 : decode cX12_spreadOf 10 = .ok (.iload_n 2, 1) := by decide +kernel
theorem dX12_spreadOf_11 : decode cX12_spreadOf 11 = .ok (.aload_n 1, 1) := by decide +kernel
theorem dX12_spreadOf_12 : decode cX12_spreadOf 12 = .ok (.getfield 516, 3) := by decide +kernel
theorem dX12_spreadOf_15 : decode cX12_spreadOf 15 = .ok (.if_icmp .ge 42, 3) := by decide +kernel
theorem dX12_spreadOf_18 : decode cX12_spreadOf 18 = .ok (.aload_n 0, 1) := by decide +kernel
theorem dX12_spreadOf_19 : decode cX12_spreadOf 19 = .ok (.getfield 51, 3) := by decide +kernel
theorem dX12_spreadOf_22 : decode cX12_spreadOf 22 = .ok (.aload_n 1, 1) := by decide +kernel
theorem dX12_spreadOf_23 : decode cX12_spreadOf 23 = .ok (.getfield 517, 3) := by decide +kernel
theorem dX12_spreadOf_26 : decode cX12_spreadOf 26 = .ok (.iload_n 2, 1) := by decide +kernel
theorem dX12_spreadOf_27 : decode cX12_spreadOf 27 = .ok (.iaload, 1) := by decide +kernel
theorem dX12_spreadOf_28 : decode cX12_spreadOf 28 = .ok (.invokevirtual 193, 3) := by decide +kernel
theorem dX12_spreadOf_31 : decode cX12_spreadOf 31 = .ok (.istore_n 3, 1) := by decide +kernel
theorem dX12_spreadOf_32 : decode cX12_spreadOf 32 = .ok (.iload_n 3, 1) := by decide +kernel
theorem dX12_spreadOf_33 : decode cX12_spreadOf 33 = .ok (.ifCond .lt 18, 3) := by decide +kernel
theorem dX12_spreadOf_36 : decode cX12_spreadOf 36 = .ok (.aload_n 0, 1) := by decide +kernel
theorem dX12_spreadOf_37 : decode cX12_spreadOf 37 = .ok (.getfield 101, 3) := by decide +kernel
theorem dX12_spreadOf_40 : decode cX12_spreadOf 40 = .ok (.iload_n 3, 1) := by decide +kernel
theorem dX12_spreadOf_41 : decode cX12_spreadOf 41 = .ok (.dup2, 1) := by decide +kernel
theorem dX12_spreadOf_42 : decode cX12_spreadOf 42 = .ok (.iaload, 1) := by decide +kernel
theorem dX12_spreadOf_43 : decode cX12_spreadOf 43 = .ok (.aload_n 1, 1) := by decide +kernel
theorem dX12_spreadOf_44 : decode cX12_spreadOf 44 = .ok (.getfield 518, 3) := by decide +kernel
theorem dX12_spreadOf_47 : decode cX12_spreadOf 47 = .ok (.iload_n 2, 1) := by decide +kernel
theorem dX12_spreadOf_48 : decode cX12_spreadOf 48 = .ok (.iaload, 1) := by decide +kernel
theorem dX12_spreadOf_49 : decode cX12_spreadOf 49 = .ok (.iadd, 1) := by decide +kernel
theorem dX12_spreadOf_50 : decode cX12_spreadOf 50 = .ok (.iastore, 1) := by decide +kernel
theorem dX12_spreadOf_51 : decode cX12_spreadOf 51 = .ok (.iinc 2 1, 3) := by decide +kernel
theorem dX12_spreadOf_54 : decode cX12_spreadOf 54 = .ok (.goto (-44), 3) := by decide +kernel
theorem dX12_spreadOf_57 : decode cX12_spreadOf 57 = .ok (.return_, 1) := by decide +kernel
theorem dX12_casesIn_0 : decode cX12_casesIn 0 = .ok (.aload_n 0, 1) := by decide +kernel
theorem dX12_casesIn_1 : decode cX12_casesIn 1 = .ok (.aload_n 1, 1) := by decide +kernel
theorem dX12_casesIn_2 : decode cX12_casesIn 2 = .ok (.invokevirtual 336, 3) := by decide +kernel
theorem dX12_casesIn_5 : decode cX12_casesIn 5 = .ok (.aload_n 0, 1) := by decide +kernel
theorem dX12_casesIn_6 : decode cX12_casesIn 6 = .ok (.getfield 101, 3) := by decide +kernel
theorem dX12_casesIn_9 : decode cX12_casesIn 9 = .ok (.iload_n 2, 1) := by decide +kernel
theorem dX12_casesIn_10 : decode cX12_casesIn 10 = .ok (.iaload, 1) := by decide +kernel
theorem dX12_casesIn_11 : decode cX12_casesIn 11 = .ok (.ireturn, 1) := by decide +kernel
theorem dX12_bandOff_0 : decode cX12_bandOff 0 = .ok (.aload_n 0, 1) := by decide +kernel
theorem dX12_bandOff_1 : decode cX12_bandOff 1 = .ok (.getfield 51, 3) := by decide +kernel
theorem dX12_bandOff_4 : decode cX12_bandOff 4 = .ok (.iload_n 2, 1) := by decide +kernel
theorem dX12_bandOff_5 : decode cX12_bandOff 5 = .ok (.invokevirtual 206, 3) := by decide +kernel
theorem dX12_bandOff_8 : decode cX12_bandOff 8 = .ok (.i2l, 1) := by decide +kernel
theorem dX12_bandOff_9 : decode cX12_bandOff 9 = .ok (.aload_n 1, 1) := by decide +kernel
theorem dX12_bandOff_10 : decode cX12_bandOff 10 = .ok (.getfield 145, 3) := by decide +kernel
theorem dX12_bandOff_13 : decode cX12_bandOff 13 = .ok (.i2l, 1) := by decide +kernel
theorem dX12_bandOff_14 : decode cX12_bandOff 14 = .ok (.lmul, 1) := by decide +kernel
theorem dX12_bandOff_15 : decode cX12_bandOff 15 = .ok (.aload_n 0, 1) := by decide +kernel
theorem dX12_bandOff_16 : decode cX12_bandOff 16 = .ok (.getfield 101, 3) := by decide +kernel
theorem dX12_bandOff_19 : decode cX12_bandOff 19 = .ok (.iload_n 2, 1) := by decide +kernel
theorem dX12_bandOff_20 : decode cX12_bandOff 20 = .ok (.iaload, 1) := by decide +kernel
theorem dX12_bandOff_21 : decode cX12_bandOff 21 = .ok (.i2l, 1) := by decide +kernel
theorem dX12_bandOff_22 : decode cX12_bandOff 22 = .ok (.aload_n 0, 1) := by decide +kernel
theorem dX12_bandOff_23 : decode cX12_bandOff 23 = .ok (.getfield 40, 3) := by decide +kernel
theorem dX12_bandOff_26 : decode cX12_bandOff 26 = .ok (.invokevirtual 340, 3) := by decide +kernel
theorem dX12_bandOff_29 : decode cX12_bandOff 29 = .ok (.i2l, 1) := by decide +kernel
theorem dX12_bandOff_30 : decode cX12_bandOff 30 = .ok (.lmul, 1) := by decide +kernel
theorem dX12_bandOff_31 : decode cX12_bandOff 31 = .ok (.lsub, 1) := by decide +kernel
theorem dX12_bandOff_32 : decode cX12_bandOff 32 = .ok (.invokestatic 520, 3) := by decide +kernel
theorem dX12_bandOff_35 : decode cX12_bandOff 35 = .ok (.lreturn, 1) := by decide +kernel
theorem dX12_driftAbove_0 : decode cX12_driftAbove 0 = .ok (.aload_n 0, 1) := by decide +kernel
theorem dX12_driftAbove_1 : decode cX12_driftAbove 1 = .ok (.aload_n 1, 1) := by decide +kernel
theorem dX12_driftAbove_2 : decode cX12_driftAbove 2 = .ok (.invokevirtual 336, 3) := by decide +kernel
theorem dX12_driftAbove_5 : decode cX12_driftAbove 5 = .ok (.lconst 0, 1) := by decide +kernel
theorem dX12_driftAbove_6 : decode cX12_driftAbove 6 = .ok (.lstore_n 2, 1) := by decide +kernel
theorem dX12_driftAbove_7 : decode cX12_driftAbove 7 = .ok (.iconst 0, 1) := by decide +kernel
theorem dX12_driftAbove_8 : decode cX12_driftAbove 8 = .ok (.istore 4, 2) := by decide +kernel
theorem dX12_driftAbove_10 : decode cX12_driftAbove 10 = .ok (.iload 4, 2) := by decide +kernel
theorem dX12_driftAbove_12 : decode cX12_driftAbove 12 = .ok (.aload_n 0, 1) := by decide +kernel
theorem dX12_driftAbove_13 : decode cX12_driftAbove 13 = .ok (.getfield 51, 3) := by decide +kernel
theorem dX12_driftAbove_16 : decode cX12_driftAbove 16 = .ok (.getfield 162, 3) := by decide +kernel
theorem dX12_driftAbove_19 : decode cX12_driftAbove 19 = .ok (.if_icmp .ge 19, 3) := by decide +kernel
theorem dX12_driftAbove_22 : decode cX12_driftAbove 22 = .ok (.lload_n 2, 1) := by decide +kernel
theorem dX12_driftAbove_23 : decode cX12_driftAbove 23 = .ok (.aload_n 0, 1) := by decide +kernel
theorem dX12_driftAbove_24 : decode cX12_driftAbove 24 = .ok (.aload_n 1, 1) := by decide +kernel
theorem dX12_driftAbove_25 : decode cX12_driftAbove 25 = .ok (.iload 4, 2) := by decide +kernel
theorem dX12_driftAbove_27 : decode cX12_driftAbove 27 = .ok (.invokevirtual 524, 3) := by decide +kernel
theorem dX12_driftAbove_30 : decode cX12_driftAbove 30 = .ok (.ladd, 1) := by decide +kernel
theorem dX12_driftAbove_31 : decode cX12_driftAbove 31 = .ok (.lstore_n 2, 1) := by decide +kernel
theorem dX12_driftAbove_32 : decode cX12_driftAbove 32 = .ok (.iinc 4 1, 3) := by decide +kernel
theorem dX12_driftAbove_35 : decode cX12_driftAbove 35 = .ok (.goto (-25), 3) := by decide +kernel
theorem dX12_driftAbove_38 : decode cX12_driftAbove 38 = .ok (.lload_n 2, 1) := by decide +kernel
theorem dX12_driftAbove_39 : decode cX12_driftAbove 39 = .ok (.lreturn, 1) := by decide +kernel
theorem dX12_driftBelow_0 : decode cX12_driftBelow 0 = .ok (.aload_n 0, 1) := by decide +kernel
theorem dX12_driftBelow_1 : decode cX12_driftBelow 1 = .ok (.getfield 40, 3) := by decide +kernel
theorem dX12_driftBelow_4 : decode cX12_driftBelow 4 = .ok (.invokevirtual 340, 3) := by decide +kernel
theorem dX12_driftBelow_7 : decode cX12_driftBelow 7 = .ok (.i2l, 1) := by decide +kernel
theorem dX12_driftBelow_8 : decode cX12_driftBelow 8 = .ok (.aload_n 1, 1) := by decide +kernel
theorem dX12_driftBelow_9 : decode cX12_driftBelow 9 = .ok (.getfield 145, 3) := by decide +kernel
theorem dX12_driftBelow_12 : decode cX12_driftBelow 12 = .ok (.i2l, 1) := by decide +kernel
theorem dX12_driftBelow_13 : decode cX12_driftBelow 13 = .ok (.lmul, 1) := by decide +kernel
theorem dX12_driftBelow_14 : decode cX12_driftBelow 14 = .ok (.lreturn, 1) := by decide +kernel
theorem dX12_farthestBand_0 : decode cX12_farthestBand 0 = .ok (.aload_n 0, 1) := by decide +kernel
theorem dX12_farthestBand_1 : decode cX12_farthestBand 1 = .ok (.aload_n 1, 1) := by decide +kernel
theorem dX12_farthestBand_2 : decode cX12_farthestBand 2 = .ok (.invokevirtual 336, 3) := by decide +kernel
theorem dX12_farthestBand_5 : decode cX12_farthestBand 5 = .ok (.iconst 0, 1) := by decide +kernel
theorem dX12_farthestBand_6 : decode cX12_farthestBand 6 = .ok (.istore_n 2, 1) := by decide +kernel
theorem dX12_farthestBand_7 : decode cX12_farthestBand 7 = .ok (.iconst 1, 1) := by decide +kernel
theorem dX12_farthestBand_8 : decode cX12_farthestBand 8 = .ok (.istore_n 3, 1) := by decide +kernel
theorem dX12_farthestBand_9 : decode cX12_farthestBand 9 = .ok (.iload_n 3, 1) := by decide +kernel
theorem dX12_farthestBand_10 : decode cX12_farthestBand 10 = .ok (.aload_n 0, 1) := by decide +kernel
theorem dX12_farthestBand_11 : decode cX12_farthestBand 11 = .ok (.getfield 51, 3) := by decide +kernel
theorem dX12_farthestBand_14 : decode cX12_farthestBand 14 = .ok (.getfield 162, 3) := by decide +kernel
theorem dX12_farthestBand_17 : decode cX12_farthestBand 17 = .ok (.if_icmp .ge 27, 3) := by decide +kernel
theorem dX12_farthestBand_20 : decode cX12_farthestBand 20 = .ok (.aload_n 0, 1) := by decide +kernel
theorem dX12_farthestBand_21 : decode cX12_farthestBand 21 = .ok (.aload_n 1, 1) := by decide +kernel
theorem dX12_farthestBand_22 : decode cX12_farthestBand 22 = .ok (.iload_n 3, 1) := by decide +kernel
theorem dX12_farthestBand_23 : decode cX12_farthestBand 23 = .ok (.invokevirtual 524, 3) := by decide +kernel
theorem dX12_farthestBand_26 : decode cX12_farthestBand 26 = .ok (.aload_n 0, 1) := by decide +kernel
theorem dX12_farthestBand_27 : decode cX12_farthestBand 27 = .ok (.aload_n 1, 1) := by decide +kernel
theorem dX12_farthestBand_28 : decode cX12_farthestBand 28 = .ok (.iload_n 2, 1) := by decide +kernel
theorem dX12_farthestBand_29 : decode cX12_farthestBand 29 = .ok (.invokevirtual 524, 3) := by decide +kernel
theorem dX12_farthestBand_32 : decode cX12_farthestBand 32 = .ok (.lcmp, 1) := by decide +kernel
theorem dX12_farthestBand_33 : decode cX12_farthestBand 33 = .ok (.ifCond .le 5, 3) := by decide +kernel
theorem dX12_farthestBand_36 : decode cX12_farthestBand 36 = .ok (.iload_n 3, 1) := by decide +kernel
theorem dX12_farthestBand_37 : decode cX12_farthestBand 37 = .ok (.istore_n 2, 1) := by decide +kernel
theorem dX12_farthestBand_38 : decode cX12_farthestBand 38 = .ok (.iinc 3 1, 3) := by decide +kernel
theorem dX12_farthestBand_41 : decode cX12_farthestBand 41 = .ok (.goto (-32), 3) := by decide +kernel
theorem dX12_farthestBand_44 : decode cX12_farthestBand 44 = .ok (.iload_n 2, 1) := by decide +kernel
theorem dX12_farthestBand_45 : decode cX12_farthestBand 45 = .ok (.ireturn, 1) := by decide +kernel
theorem dX12_meanBits_0 : decode cX12_meanBits 0 = .ok (.iload_n 2, 1) := by decide +kernel
theorem dX12_meanBits_1 : decode cX12_meanBits 1 = .ok (.ifCond .ne 9, 3) := by decide +kernel
theorem dX12_meanBits_4 : decode cX12_meanBits 4 = .ok (.ldc2_w 225, 3) := by decide +kernel
theorem dX12_meanBits_7 : decode cX12_meanBits 7 = .ok (.goto 12, 3) := by decide +kernel
theorem dX12_meanBits_10 : decode cX12_meanBits 10 = .ok (.lload_n 0, 1) := by decide +kernel
theorem dX12_meanBits_11 : decode cX12_meanBits 11 = .ok (.iload_n 2, 1) := by decide +kernel
theorem dX12_meanBits_12 : decode cX12_meanBits 12 = .ok (.i2l, 1) := by decide +kernel
theorem dX12_meanBits_13 : decode cX12_meanBits 13 = .ok (.invokestatic 227, 3) := by decide +kernel
theorem dX12_meanBits_16 : decode cX12_meanBits 16 = .ok (.invokestatic 233, 3) := by decide +kernel
theorem dX12_meanBits_19 : decode cX12_meanBits 19 = .ok (.lreturn, 1) := by decide +kernel
theorem dX12_isMonth_0 : decode cX12_isMonth 0 = .ok (.iload_n 1, 1) := by decide +kernel
theorem dX12_isMonth_1 : decode cX12_isMonth 1 = .ok (.ifCond .lt 15, 3) := by decide +kernel
theorem dX12_isMonth_4 : decode cX12_isMonth 4 = .ok (.iload_n 1, 1) := by decide +kernel
theorem dX12_isMonth_5 : decode cX12_isMonth 5 = .ok (.aload_n 0, 1) := by decide +kernel
theorem dX12_isMonth_6 : decode cX12_isMonth 6 = .ok (.getfield 112, 3) := by decide +kernel
theorem dX12_isMonth_9 : decode cX12_isMonth 9 = .ok (.if_icmp .ge 7, 3) := by decide +kernel
theorem dX12_isMonth_12 : decode cX12_isMonth 12 = .ok (.iconst 1, 1) := by decide +kernel
theorem dX12_isMonth_13 : decode cX12_isMonth 13 = .ok (.goto 4, 3) := by decide +kernel
theorem dX12_isMonth_16 : decode cX12_isMonth 16 = .ok (.iconst 0, 1) := by decide +kernel
theorem dX12_isMonth_17 : decode cX12_isMonth 17 = .ok (.ireturn, 1) := by decide +kernel
theorem dX12_isScore_0 : decode cX12_isScore 0 = .ok (.iload_n 0, 1) := by decide +kernel
theorem dX12_isScore_1 : decode cX12_isScore 1 = .ok (.ifCond .lt 14, 3) := by decide +kernel
theorem dX12_isScore_4 : decode cX12_isScore 4 = .ok (.iload_n 0, 1) := by decide +kernel
theorem dX12_isScore_5 : decode cX12_isScore 5 = .ok (.sipush 1000, 3) := by decide +kernel
theorem dX12_isScore_8 : decode cX12_isScore 8 = .ok (.if_icmp .ge 7, 3) := by decide +kernel
theorem dX12_isScore_11 : decode cX12_isScore 11 = .ok (.iconst 1, 1) := by decide +kernel
theorem dX12_isScore_12 : decode cX12_isScore 12 = .ok (.goto 4, 3) := by decide +kernel
theorem dX12_isScore_15 : decode cX12_isScore 15 = .ok (.iconst 0, 1) := by decide +kernel
theorem dX12_isScore_16 : decode cX12_isScore 16 = .ok (.ireturn, 1) := by decide +kernel
theorem dX12_isCut_0 : decode cX12_isCut 0 = .ok (.iload_n 0, 1) := by decide +kernel
theorem dX12_isCut_1 : decode cX12_isCut 1 = .ok (.ifCond .lt 14, 3) := by decide +kernel
theorem dX12_isCut_4 : decode cX12_isCut 4 = .ok (.iload_n 0, 1) := by decide +kernel
theorem dX12_isCut_5 : decode cX12_isCut 5 = .ok (.sipush 1000, 3) := by decide +kernel
theorem dX12_isCut_8 : decode cX12_isCut 8 = .ok (.if_icmp .gt 7, 3) := by decide +kernel
theorem dX12_isCut_11 : decode cX12_isCut 11 = .ok (.iconst 1, 1) := by decide +kernel
theorem dX12_isCut_12 : decode cX12_isCut 12 = .ok (.goto 4, 3) := by decide +kernel
theorem dX12_isCut_15 : decode cX12_isCut 15 = .ok (.iconst 0, 1) := by decide +kernel
theorem dX12_isCut_16 : decode cX12_isCut 16 = .ok (.ireturn, 1) := by decide +kernel
theorem dX12_isCost_0 : decode cX12_isCost 0 = .ok (.iload_n 0, 1) := by decide +kernel
theorem dX12_isCost_1 : decode cX12_isCost 1 = .ok (.ifCond .lt 14, 3) := by decide +kernel
theorem dX12_isCost_4 : decode cX12_isCost 4 = .ok (.iload_n 0, 1) := by decide +kernel
theorem dX12_isCost_5 : decode cX12_isCost 5 = .ok (.sipush 999, 3) := by decide +kernel
theorem dX12_isCost_8 : decode cX12_isCost 8 = .ok (.if_icmp .gt 7, 3) := by decide +kernel
theorem dX12_isCost_11 : decode cX12_isCost 11 = .ok (.iconst 1, 1) := by decide +kernel
theorem dX12_isCost_12 : decode cX12_isCost 12 = .ok (.goto 4, 3) := by decide +kernel
theorem dX12_isCost_15 : decode cX12_isCost 15 = .ok (.iconst 0, 1) := by decide +kernel
theorem dX12_isCost_16 : decode cX12_isCost 16 = .ok (.ireturn, 1) := by decide +kernel
theorem dX12_isStep_0 : decode cX12_isStep 0 = .ok (.iload_n 0, 1) := by decide +kernel
theorem dX12_isStep_1 : decode cX12_isStep 1 = .ok (.bipush (-99), 2) := by decide +kernel
theorem dX12_isStep_3 : decode cX12_isStep 3 = .ok (.if_icmp .lt 13, 3) := by decide +kernel
theorem dX12_isStep_6 : decode cX12_isStep 6 = .ok (.iload_n 0, 1) := by decide +kernel
theorem dX12_isStep_7 : decode cX12_isStep 7 = .ok (.bipush 99, 2) := by decide +kernel
theorem dX12_isStep_9 : decode cX12_isStep 9 = .ok (.if_icmp .gt 7, 3) := by decide +kernel
theorem dX12_isStep_12 : decode cX12_isStep 12 = .ok (.iconst 1, 1) := by decide +kernel
theorem dX12_isStep_13 : decode cX12_isStep 13 = .ok (.goto 4, 3) := by decide +kernel
theorem dX12_isStep_16 : decode cX12_isStep 16 = .ok (.iconst 0, 1) := by decide +kernel
theorem dX12_isStep_17 : decode cX12_isStep 17 = .ok (.ireturn, 1) := by decide +kernel
theorem dX13_in_0 : decode cX13_in 0 = .ok (.lload_n 0, 1) := by decide +kernel
theorem dX13_in_1 : decode cX13_in 1 = .ok (.lload_n 2, 1) := by decide +kernel
theorem dX13_in_2 : decode cX13_in 2 = .ok (.lcmp, 1) := by decide +kernel
theorem dX13_in_3 : decode cX13_in 3 = .ok (.ifCond .lt 14, 3) := by decide +kernel
theorem dX13_in_6 : decode cX13_in 6 = .ok (.lload_n 0, 1) := by decide +kernel
theorem dX13_in_7 : decode cX13_in 7 = .ok (.lload 4, 2) := by decide +kernel
theorem dX13_in_9 : decode cX13_in 9 = .ok (.lcmp, 1) := by decide +kernel
theorem dX13_in_10 : decode cX13_in 10 = .ok (.ifCond .gt 7, 3) := by decide +kernel
theorem dX13_in_13 : decode cX13_in 13 = .ok (.iconst 1, 1) := by decide +kernel
theorem dX13_in_14 : decode cX13_in 14 = .ok (.goto 4, 3) := by decide +kernel
theorem dX13_in_17 : decode cX13_in 17 = .ok (.iconst 0, 1) := by decide +kernel
theorem dX13_in_18 : decode cX13_in 18 = .ok (.ireturn, 1) := by decide +kernel
theorem dX13_common_0 : decode cX13_common 0 = .ok (.lload_n 0, 1) := by decide +kernel
theorem dX13_common_1 : decode cX13_common 1 = .ok (.lstore 4, 2) := by decide +kernel
theorem dX13_common_3 : decode cX13_common 3 = .ok (.lload_n 2, 1) := by decide +kernel
theorem dX13_common_4 : decode cX13_common 4 = .ok (.lstore 6, 2) := by decide +kernel
theorem dX13_common_6 : decode cX13_common 6 = .ok (.lload 6, 2) := by decide +kernel
theorem dX13_common_8 : decode cX13_common 8 = .ok (.lconst 0, 1) := by decide +kernel
theorem dX13_common_9 : decode cX13_common 9 = .ok (.lcmp, 1) := by decide +kernel
theorem dX13_common_10 : decode cX13_common 10 = .ok (.ifCond .eq 21, 3) := by decide +kernel
theorem dX13_common_13 : decode cX13_common 13 = .ok (.lload 4, 2) := by decide +kernel
theorem dX13_common_15 : decode cX13_common 15 = .ok (.lload 6, 2) := by decide +kernel
theorem dX13_common_17 : decode cX13_common 17 = .ok (.lrem, 1) := by decide +kernel
theorem dX13_common_18 : decode cX13_common 18 = .ok (.lstore 8, 2) := by decide +kernel
theorem dX13_common_20 : decode cX13_common 20 = .ok (.lload 6, 2) := by decide +kernel
theorem dX13_common_22 : decode cX13_common 22 = .ok (.lstore 4, 2) := by decide +kernel
theorem dX13_common_24 : decode cX13_common 24 = .ok (.lload 8, 2) := by decide +kernel
theorem dX13_common_26 : decode cX13_common 26 = .ok (.lstore 6, 2) := by decide +kernel
theorem dX13_common_28 : decode cX13_common 28 = .ok (.goto (-22), 3) := by decide +kernel
theorem dX13_common_31 : decode cX13_common 31 = .ok (.lload 4, 2) := by decide +kernel
theorem dX13_common_33 : decode cX13_common 33 = .ok (.lconst 0, 1) := by decide +kernel
theorem dX13_common_34 : decode cX13_common 34 = .ok (.lcmp, 1) := by decide +kernel
theorem dX13_common_35 : decode cX13_common 35 = .ok (.ifCond .ge 9, 3) := by decide +kernel
theorem dX13_common_38 : decode cX13_common 38 = .ok (.lload 4, 2) := by decide +kernel
theorem dX13_common_40 : decode cX13_common 40 = .ok (.lneg, 1) := by decide +kernel
theorem dX13_common_41 : decode cX13_common 41 = .ok (.goto 5, 3) := by decide +kernel
theorem dX13_common_44 : decode cX13_common 44 = .ok (.lload 4, 2) := by decide +kernel
theorem dX13_common_46 : decode cX13_common 46 = .ok (.lreturn, 1) := by decide +kernel
theorem dX13_told_0 : decode cX13_told 0 = .ok (.lload_n 0, 1) := by decide +kernel
theorem dX13_told_1 : decode cX13_told 1 = .ok (.lload_n 2, 1) := by decide +kernel
theorem dX13_told_2 : decode cX13_told 2 = .ok (.invokestatic 5, 3) := by decide +kernel
theorem dX13_told_5 : decode cX13_told 5 = .ok (.lstore 5, 2) := by decide +kernel
theorem dX13_told_7 : decode cX13_told 7 = .ok (.iload 4, 2) := by decide +kernel
theorem dX13_told_9 : decode cX13_told 9 = .ok (.ifCond .ne 10, 3) := by decide +kernel
theorem dX13_told_12 : decode cX13_told 12 = .ok (.lload_n 0, 1) := by decide +kernel
theorem dX13_told_13 : decode cX13_told 13 = .ok (.lload 5, 2) := by decide +kernel
theorem dX13_told_15 : decode cX13_told 15 = .ok (.ldiv, 1) := by decide +kernel
theorem dX13_told_16 : decode cX13_told 16 = .ok (.goto 7, 3) := by decide +kernel
theorem dX13_told_19 : decode cX13_told 19 = .ok (.lload_n 2, 1) := by decide +kernel
theorem dX13_told_20 : decode cX13_told 20 = .ok (.lload 5, 2) := by decide +kernel
theorem dX13_told_22 : decode cX13_told 22 = .ok (.ldiv, 1) := by decide +kernel
theorem dX13_told_23 : decode cX13_told 23 = .ok (.lreturn, 1) := by decide +kernel
theorem dX13_init_0 : decode cX13_init 0 = .ok (.aload_n 0, 1) := by decide +kernel
theorem dX13_init_1 : decode cX13_init 1 = .ok (.invokespecial 9, 3) := by decide +kernel
theorem dX13_init_4 : decode cX13_init 4 = .ok (.aload_n 0, 1) := by decide +kernel
theorem dX13_init_5 : decode cX13_init 5 = .ok (.sipush 3206, 3) := by decide +kernel
theorem dX13_init_8 : decode cX13_init 8 = .ok (.newarray .int, 2) := by decide +kernel
theorem dX13_init_10 : decode cX13_init 10 = .ok (.putfield 15, 3) := by decide +kernel
theorem dX13_init_13 : decode cX13_init 13 = .ok (.aload_n 0, 1) := by decide +kernel
theorem dX13_init_14 : decode cX13_init 14 = .ok (.sipush 32060, 3) := by decide +kernel
theorem dX13_init_17 : decode cX13_init 17 = .ok (.newarray .int, 2) := by decide +kernel
theorem dX13_init_19 : decode cX13_init 19 = .ok (.putfield 19, 3) := by decide +kernel
theorem dX13_init_22 : decode cX13_init 22 = .ok (.aload_n 0, 1) := by decide +kernel
theorem dX13_init_23 : decode cX13_init 23 = .ok (.sipush 3206, 3) := by decide +kernel
theorem dX13_init_26 : decode cX13_init 26 = .ok (.newarray .int, 2) := by decide +kernel
theorem dX13_init_28 : decode cX13_init 28 = .ok (.putfield 22, 3) := by decide +kernel
theorem dX13_init_31 : decode cX13_init 31 = .ok (.aload_n 0, 1) := by decide +kernel
theorem dX13_init_32 : decode cX13_init 32 = .ok (.sipush 1000, 3) := by decide +kernel
theorem dX13_init_35 : decode cX13_init 35 = .ok (.newarray .int, 2) := by decide +kernel
theorem dX13_init_37 : decode cX13_init 37 = .ok (.putfield 25, 3) := by decide +kernel
theorem dX13_init_40 : decode cX13_init 40 = .ok (.aload_n 0, 1) := by decide +kernel
theorem dX13_init_41 : decode cX13_init 41 = .ok (.sipush 12000, 3) := by decide +kernel
theorem dX13_init_44 : decode cX13_init 44 = .ok (.newarray .int, 2) := by decide +kernel
theorem dX13_init_46 : decode cX13_init 46 = .ok (.putfield 28, 3) := by decide +kernel
theorem dX13_init_49 : decode cX13_init 49 = .ok (.aload_n 0, 1) := by decide +kernel
theorem dX13_init_50 : decode cX13_init 50 = .ok (.sipush 1600, 3) := by decide +kernel
theorem dX13_init_53 : decode cX13_init 53 = .ok (.newarray .int, 2) := by decide +kernel
theorem dX13_init_55 : decode cX13_init 55 = .ok (.putfield 31, 3) := by decide +kernel
theorem dX13_init_58 : decode cX13_init 58 = .ok (.aload_n 0, 1) := by decide +kernel
theorem dX13_init_59 : decode cX13_init 59 = .ok (.iconst (-1), 1) := by decide +kernel
theorem dX13_init_60 : decode cX13_init 60 = .ok (.putfield 34, 3) := by decide +kernel
theorem dX13_init_63 : decode cX13_init 63 = .ok (.aload_n 0, 1) := by decide +kernel
theorem dX13_init_64 : decode cX13_init 64 = .ok (.sipush 3000, 3) := by decide +kernel
theorem dX13_init_67 : decode cX13_init 67 = .ok (.newarray .int, 2) := by decide +kernel
theorem dX13_init_69 : decode cX13_init 69 = .ok (.putfield 38, 3) := by decide +kernel
theorem dX13_init_72 : decode cX13_init 72 = .ok (.aload_n 0, 1) := by decide +kernel
theorem dX13_init_73 : decode cX13_init 73 = .ok (.sipush 1000, 3) := by decide +kernel
theorem dX13_init_76 : decode cX13_init 76 = .ok (.newarray .boolean, 2) := by decide +kernel
theorem dX13_init_78 : decode cX13_init 78 = .ok (.putfield 41, 3) := by decide +kernel
theorem dX13_init_81 : decode cX13_init 81 = .ok (.aload_n 0, 1) := by decide +kernel
theorem dX13_init_82 : decode cX13_init 82 = .ok (.iconst 5, 1) := by decide +kernel
theorem dX13_init_83 : decode cX13_init 83 = .ok (.newarray .int, 2) := by decide +kernel
theorem dX13_init_85 : decode cX13_init 85 = .ok (.putfield 45, 3) := by decide +kernel
theorem dX13_init_88 : decode cX13_init 88 = .ok (.aload_n 0, 1) := by decide +kernel
theorem dX13_init_89 : decode cX13_init 89 = .ok (.bipush 61, 2) := by decide +kernel
theorem dX13_init_91 : decode cX13_init 91 = .ok (.newarray .int, 2) := by decide +kernel
theorem dX13_init_93 : decode cX13_init 93 = .ok (.putfield 48, 3) := by decide +kernel
theorem dX13_init_96 : decode cX13_init 96 = .ok (.aload_n 0, 1) := by decide +kernel
theorem dX13_init_97 : decode cX13_init 97 = .ok (.bipush 61, 2) := by decide +kernel
theorem dX13_init_99 : decode cX13_init 99 = .ok (.newarray .int, 2) := by decide +kernel
theorem dX13_init_101 : decode cX13_init 101 = .ok (.putfield 51, 3) := by decide +kernel
theorem dX13_init_104 : decode cX13_init 104 = .ok (.aload_n 0, 1) := by decide +kernel
theorem dX13_init_105 : decode cX13_init 105 = .ok (.bipush 61, 2) := by decide +kernel
theorem dX13_init_107 : decode cX13_init 107 = .ok (.newarray .int, 2) := by decide +kernel
theorem dX13_init_109 : decode cX13_init 109 = .ok (.putfield 54, 3) := by decide +kernel
theorem dX13_init_112 : decode cX13_init 112 = .ok (.aload_n 0, 1) := by decide +kernel
theorem dX13_init_113 : decode cX13_init 113 = .ok (.bipush 62, 2) := by decide +kernel
theorem dX13_init_115 : decode cX13_init 115 = .ok (.newarray .int, 2) := by decide +kernel
theorem dX13_init_117 : decode cX13_init 117 = .ok (.putfield 57, 3) := by decide +kernel
theorem dX13_init_120 : decode cX13_init 120 = .ok (.aload_n 0, 1) := by decide +kernel
theorem dX13_init_121 : decode cX13_init 121 = .ok (.sipush 2002, 3) := by decide +kernel
theorem dX13_init_124 : decode cX13_init 124 = .ok (.newarray .long, 2) := by decide +kernel
theorem dX13_init_126 : decode cX13_init 126 = .ok (.putfield 60, 3) := by decide +kernel
theorem dX13_init_129 : decode cX13_init 129 = .ok (.aload_n 0, 1) := by decide +kernel
theorem dX13_init_130 : decode cX13_init 130 = .ok (.sipush 3721, 3) := by decide +kernel
theorem dX13_init_133 : decode cX13_init 133 = .ok (.newarray .double, 2) := by decide +kernel
theorem dX13_init_135 : decode cX13_init 135 = .ok (.putfield 64, 3) := by decide +kernel
theorem dX13_init_138 : decode cX13_init 138 = .ok (.aload_n 0, 1) := by decide +kernel
theorem dX13_init_139 : decode cX13_init 139 = .ok (.sipush 3721, 3) := by decide +kernel
theorem dX13_init_142 : decode cX13_init 142 = .ok (.newarray .int, 2) := by decide +kernel
theorem dX13_init_144 : decode cX13_init 144 = .ok (.putfield 68, 3) := by decide +kernel
theorem dX13_init_147 : decode cX13_init 147 = .ok (.aload_n 0, 1) := by decide +kernel
theorem dX13_init_148 : decode cX13_init 148 = .ok (.sipush 1400, 3) := by decide +kernel
theorem dX13_init_151 : decode cX13_init 151 = .ok (.newarray .int, 2) := by decide +kernel
theorem dX13_init_153 : decode cX13_init 153 = .ok (.putfield 71, 3) := by decide +kernel
theorem dX13_init_156 : decode cX13_init 156 = .ok (.aload_n 0, 1) := by decide +kernel
theorem dX13_init_157 : decode cX13_init 157 = .ok (.invokevirtual 74, 3) := by decide +kernel
theorem dX13_init_160 : decode cX13_init 160 = .ok (.return_, 1) := by decide +kernel
theorem dX13_begins_0 : decode cX13_begins 0 = .ok (.iconst 0, 1) := by decide +kernel
theorem dX13_begins_1 : decode cX13_begins 1 = .ok (.istore_n 1, 1) := by decide +kernel
theorem dX13_begins_2 : decode cX13_begins 2 = .ok (.iload_n 1, 1) := by decide +kernel
theorem dX13_begins_3 : decode cX13_begins 3 = .ok (.sipush 3206, 3) := by decide +kernel
theorem dX13_begins_6 : decode cX13_begins 6 = .ok (.if_icmp .ge 16, 3) := by decide +kernel
theorem dX13_begins_9 : decode cX13_begins 9 = .ok (.aload_n 0, 1) := by decide +kernel
theorem dX13_begins_10 : decode cX13_begins 10 = .ok (.getfield 15, 3) := by decide +kernel
theorem dX13_begins_13 : decode cX13_begins 13 = .ok (.iload_n 1, 1) := by decide +kernel
theorem dX13_begins_14 : decode cX13_begins 14 = .ok (.iconst 0, 1) := by decide +kernel
theorem dX13_begins_15 : decode cX13_begins 15 = .ok (.iastore, 1) := by decide +kernel
theorem dX13_begins_16 : decode cX13_begins 16 = .ok (.iinc 1 1, 3) := by decide +kernel
theorem dX13_begins_19 : decode cX13_begins 19 = .ok (.goto (-17), 3) := by decide +kernel
theorem dX13_begins_22 : decode cX13_begins 22 = .ok (.aload_n 0, 1) := by decide +kernel
theorem dX13_begins_23 : decode cX13_begins 23 = .ok (.getfield 15, 3) := by decide +kernel
theorem dX13_begins_26 : decode cX13_begins 26 = .ok (.sipush 3201, 3) := by decide +kernel
theorem dX13_begins_29 : decode cX13_begins 29 = .ok (.iconst 1, 1) := by decide +kernel
theorem dX13_begins_30 : decode cX13_begins 30 = .ok (.iastore, 1) := by decide +kernel
theorem dX13_begins_31 : decode cX13_begins 31 = .ok (.aload_n 0, 1) := by decide +kernel
theorem dX13_begins_32 : decode cX13_begins 32 = .ok (.getfield 15, 3) := by decide +kernel
theorem dX13_begins_35 : decode cX13_begins 35 = .ok (.sipush 3202, 3) := by decide +kernel
theorem dX13_begins_38 : decode cX13_begins 38 = .ok (.bipush 60, 2) := by decide +kernel
theorem dX13_begins_40 : decode cX13_begins 40 = .ok (.iastore, 1) := by decide +kernel
theorem dX13_begins_41 : decode cX13_begins 41 = .ok (.aload_n 0, 1) := by decide +kernel
theorem dX13_begins_42 : decode cX13_begins 42 = .ok (.getfield 15, 3) := by decide +kernel
theorem dX13_begins_45 : decode cX13_begins 45 = .ok (.sipush 3203, 3) := by decide +kernel
theorem dX13_begins_48 : decode cX13_begins 48 = .ok (.iconst 1, 1) := by decide +kernel
theorem dX13_begins_49 : decode cX13_begins 49 = .ok (.iastore, 1) := by decide +kernel
theorem dX13_begins_50 : decode cX13_begins 50 = .ok (.aload_n 0, 1) := by decide +kernel
theorem dX13_begins_51 : decode cX13_begins 51 = .ok (.getfield 15, 3) := by decide +kernel
theorem dX13_begins_54 : decode cX13_begins 54 = .ok (.sipush 3204, 3) := by decide +kernel
theorem dX13_begins_57 : decode cX13_begins 57 = .ok (.iconst 5, 1) := by decide +kernel
theorem dX13_begins_58 : decode cX13_begins 58 = .ok (.iastore, 1) := by decide +kernel
theorem dX13_begins_59 : decode cX13_begins 59 = .ok (.aload_n 0, 1) := by decide +kernel
theorem dX13_begins_60 : decode cX13_begins 60 = .ok (.getfield 15, 3) := by decide +kernel
theorem dX13_begins_63 : decode cX13_begins 63 = .ok (.sipush 3205, 3) := by decide +kernel
theorem dX13_begins_66 : decode cX13_begins 66 = .ok (.iconst 1, 1) := by decide +kernel
theorem dX13_begins_67 : decode cX13_begins 67 = .ok (.iastore, 1) := by decide +kernel
theorem dX13_begins_68 : decode cX13_begins 68 = .ok (.iconst 0, 1) := by decide +kernel
theorem dX13_begins_69 : decode cX13_begins 69 = .ok (.istore_n 1, 1) := by decide +kernel
theorem dX13_begins_70 : decode cX13_begins 70 = .ok (.iload_n 1, 1) := by decide +kernel
theorem dX13_begins_71 : decode cX13_begins 71 = .ok (.sipush 1000, 3) := by decide +kernel
theorem dX13_begins_74 : decode cX13_begins 74 = .ok (.if_icmp .ge 16, 3) := by decide +kernel
theorem dX13_begins_77 : decode cX13_begins 77 = .ok (.aload_n 0, 1) := by decide +kernel
theorem dX13_begins_78 : decode cX13_begins 78 = .ok (.getfield 25, 3) := by decide +kernel
theorem dX13_begins_81 : decode cX13_begins 81 = .ok (.iload_n 1, 1) := by decide +kernel
theorem dX13_begins_82 : decode cX13_begins 82 = .ok (.iconst 0, 1) := by decide +kernel
theorem dX13_begins_83 : decode cX13_begins 83 = .ok (.iastore, 1) := by decide +kernel
theorem dX13_begins_84 : decode cX13_begins 84 = .ok (.iinc 1 1, 3) := by decide +kernel
theorem dX13_begins_87 : decode cX13_begins 87 = .ok (.goto (-17), 3) := by decide +kernel
theorem dX13_begins_90 : decode cX13_begins 90 = .ok (.aload_n 0, 1) := by decide +kernel
theorem dX13_begins_91 : decode cX13_begins 91 = .ok (.iconst 0, 1) := by decide +kernel
theorem dX13_begins_92 : decode cX13_begins 92 = .ok (.putfield 77, 3) := by decide +kernel
theorem dX13_begins_95 : decode cX13_begins 95 = .ok (.aload_n 0, 1) := by decide +kernel
theorem dX13_begins_96 : decode cX13_begins 96 = .ok (.iconst 0, 1) := by decide +kernel
theorem dX13_begins_97 : decode cX13_begins 97 = .ok (.putfield 80, 3) := by decide +kernel
theorem dX13_begins_100 : decode cX13_begins 100 = .ok (.return_, 1) := by decide +kernel
theorem dX13_feed_0 : decode cX13_feed 0 = .ok (.aload_n 0, 1) := by decide +kernel
theorem dX13_feed_1 : decode cX13_feed 1 = .ok (.getfield 83, 3) := by decide +kernel
theorem dX13_feed_4 : decode cX13_feed 4 = .ok (.sipush 1580, 3) := by decide +kernel
theorem dX13_feed_7 : decode cX13_feed 7 = .ok (.if_icmp .le 5, 3) := by decide +kernel
theorem dX13_feed_10 : decode cX13_feed 10 = .ok (.iconst (-1), 1) := by decide +kernel
theorem dX13_feed_11 : decode cX13_feed 11 = .ok (.ireturn, 1) := by decide +kernel
theorem dX13_feed_12 : decode cX13_feed 12 = .ok (.iconst 5, 1) := by decide +kernel
theorem dX13_feed_13 : decode cX13_feed 13 = .ok (.newarray .int, 2) := by decide +kernel
theorem dX13_feed_15 : decode cX13_feed 15 = .ok (.dup, 1) := by decide +kernel
theorem dX13_feed_16 : decode cX13_feed 16 = .ok (.iconst 0, 1) := by decide +kernel
theorem dX13_feed_17 : decode cX13_feed 17 = .ok (.iload_n 1, 1) := by decide +kernel
theorem dX13_feed_18 : decode cX13_feed 18 = .ok (.iastore, 1) := by decide +kernel
theorem dX13_feed_19 : decode cX13_feed 19 = .ok (.dup, 1) := by decide +kernel
theorem dX13_feed_20 : decode cX13_feed 20 = .ok (.iconst 1, 1) := by decide +kernel
theorem dX13_feed_21 : decode cX13_feed 21 = .ok (.iload_n 2, 1) := by decide +kernel
theorem dX13_feed_22 : decode cX13_feed 22 = .ok (.iastore, 1) := by decide +kernel
theorem dX13_feed_23 : decode cX13_feed 23 = .ok (.dup, 1) := by decide +kernel
theorem dX13_feed_24 : decode cX13_feed 24 = .ok (.iconst 2, 1) := by decide +kernel
theorem dX13_feed_25 : decode cX13_feed 25 = .ok (.iload_n 3, 1) := by decide +kernel
theorem dX13_feed_26 : decode cX13_feed 26 = .ok (.iastore, 1) := by decide +kernel
theorem dX13_feed_27 : decode cX13_feed 27 = .ok (.dup, 1) := by decide +kernel
theorem dX13_feed_28 : decode cX13_feed 28 = .ok (.iconst 3, 1) := by decide +kernel
theorem dX13_feed_29 : decode cX13_feed 29 = .ok (.iload 4, 2) := by decide +kernel
theorem dX13_feed_31 : decode cX13_feed 31 = .ok (.iastore, 1) := by decide +kernel
theorem dX13_feed_32 : decode cX13_feed 32 = .ok (.dup, 1) := by decide +kernel
theorem dX13_feed_33 : decode cX13_feed 33 = .ok (.iconst 4, 1) := by decide +kernel
theorem dX13_feed_34 : decode cX13_feed 34 = .ok (.iload 5, 2) := by decide +kernel
theorem dX13_feed_36 : decode cX13_feed 36 = .ok (.iastore, 1) := by decide +kernel
theorem dX13_feed_37 : decode cX13_feed 37 = .ok (.astore 6, 2) := by decide +kernel
theorem dX13_feed_39 : decode cX13_feed 39 = .ok (.iconst 0, 1) := by decide +kernel
theorem dX13_feed_40 : decode cX13_feed 40 = .ok (.istore 7, 2) := by decide +kernel
theorem dX13_feed_42 : decode cX13_feed 42 = .ok (.iload 7, 2) := by decide +kernel
theorem dX13_feed_44 : decode cX13_feed 44 = .ok (.bipush 20, 2) := by decide +kernel
theorem dX13_feed_46 : decode cX13_feed 46 = .ok (.if_icmp .ge 43, 3) := by decide +kernel
theorem dX13_feed_49 : decode cX13_feed 49 = .ok (.aload_n 0, 1) := by decide +kernel
theorem dX13_feed_50 : decode cX13_feed 50 = .ok (.getfield 31, 3) := by decide +kernel
theorem dX13_feed_53 : decode cX13_feed 53 = .ok (.aload_n 0, 1) := by decide +kernel
theorem dX13_feed_54 : decode cX13_feed 54 = .ok (.getfield 83, 3) := by decide +kernel
theorem dX13_feed_57 : decode cX13_feed 57 = .ok (.iload 7, 2) := by decide +kernel
theorem dX13_feed_59 : decode cX13_feed 59 = .ok (.iadd, 1) := by decide +kernel
theorem dX13_feed_60 : decode cX13_feed 60 = .ok (.aload 6, 2) := by decide +kernel
theorem dX13_feed_62 : decode cX13_feed 62 = .ok (.iload 7, 2) := by decide +kernel
theorem dX13_feed_64 : decode cX13_feed 64 = .ok (.iconst 4, 1) := by decide +kernel
theorem dX13_feed_65 : decode cX13_feed 65 = .ok (.idiv, 1) := by decide +kernel
theorem dX13_feed_66 : decode cX13_feed 66 = .ok (.iaload, 1) := by decide +kernel
theorem dX13_feed_67 : decode cX13_feed 67 = .ok (.bipush 24, 2) := by decide +kernel
theorem dX13_feed_69 : decode cX13_feed 69 = .ok (.bipush 8, 2) := by decide +kernel
theorem dX13_feed_71 : decode cX13_feed 71 = .ok (.iload 7, 2) := by decide +kernel
theorem dX13_feed_73 : decode cX13_feed 73 = .ok (.iconst 4, 1) := by decide +kernel
theorem dX13_feed_74 : decode cX13_feed 74 = .ok (.irem, 1) := by decide +kernel
theorem dX13_feed_75 : decode cX13_feed 75 = .ok (.imul, 1) := by decide +kernel
theorem dX13_feed_76 : decode cX13_feed 76 = .ok (.isub, 1) := by decide +kernel
theorem dX13_feed_77 : decode cX13_feed 77 = .ok (.iushr, 1) := by decide +kernel
theorem dX13_feed_78 : decode cX13_feed 78 = .ok (.sipush 255, 3) := by decide +kernel
theorem dX13_feed_81 : decode cX13_feed 81 = .ok (.iand, 1) := by decide +kernel
theorem dX13_feed_82 : decode cX13_feed 82 = .ok (.iastore, 1) := by decide +kernel
theorem dX13_feed_83 : decode cX13_feed 83 = .ok (.iinc 7 1, 3) := by decide +kernel
theorem dX13_feed_86 : decode cX13_feed 86 = .ok (.goto (-44), 3) := by decide +kernel
theorem dX13_feed_89 : decode cX13_feed 89 = .ok (.aload_n 0, 1) := by decide +kernel
theorem dX13_feed_90 : decode cX13_feed 90 = .ok (.dup, 1) := by decide +kernel
theorem dX13_feed_91 : decode cX13_feed 91 = .ok (.getfield 83, 3) := by decide +kernel
theorem dX13_feed_94 : decode cX13_feed 94 = .ok (.bipush 20, 2) := by decide +kernel
theorem dX13_feed_96 : decode cX13_feed 96 = .ok (.iadd, 1) := by decide +kernel
theorem dX13_feed_97 : decode cX13_feed 97 = .ok (.putfield 83, 3) := by decide +kernel
theorem dX13_feed_100 : decode cX13_feed 100 = .ok (.aload_n 0, 1) := by decide +kernel
theorem dX13_feed_101 : decode cX13_feed 101 = .ok (.getfield 83, 3) := by decide +kernel
theorem dX13_feed_104 : decode cX13_feed 104 = .ok (.ireturn, 1) := by decide +kernel
theorem dX13_end_0 : decode cX13_end 0 = .ok (.iload_n 1, 1) := by decide +kernel
theorem dX13_end_1 : decode cX13_end 1 = .ok (.i2l, 1) := by decide +kernel
theorem dX13_end_2 : decode cX13_end 2 = .ok (.lconst 0, 1) := by decide +kernel
theorem dX13_end_3 : decode cX13_end 3 = .ok (.aload_n 0, 1) := by decide +kernel
theorem dX13_end_4 : decode cX13_end 4 = .ok (.getfield 83, 3) := by decide +kernel
theorem dX13_end_7 : decode cX13_end 7 = .ok (.i2l, 1) := by decide +kernel
theorem dX13_end_8 : decode cX13_end 8 = .ok (.invokestatic 86, 3) := by decide +kernel
theorem dX13_end_11 : decode cX13_end 11 = .ok (.ifCond .ne 5, 3) := by decide +kernel
theorem dX13_end_14 : decode cX13_end 14 = .ok (.iconst (-1), 1) := by decide +kernel
theorem dX13_end_15 : decode cX13_end 15 = .ok (.ireturn, 1) := by decide +kernel
theorem dX13_end_16 : decode cX13_end 16 = .ok (.aload_n 0, 1) := by decide +kernel
theorem dX13_end_17 : decode cX13_end 17 = .ok (.iload_n 1, 1) := by decide +kernel
theorem dX13_end_18 : decode cX13_end 18 = .ok (.putfield 83, 3) := by decide +kernel
theorem dX13_end_21 : decode cX13_end 21 = .ok (.iload_n 1, 1) := by decide +kernel
theorem dX13_end_22 : decode cX13_end 22 = .ok (.ireturn, 1) := by decide +kernel
theorem dX13_isAt_0 : decode cX13_isAt 0 = .ok (.aload_n 0, 1) := by decide +kernel
theorem dX13_isAt_1 : decode cX13_isAt 1 = .ok (.getfield 90, 3) := by decide +kernel
theorem dX13_isAt_4 : decode cX13_isAt 4 = .ok (.aload_n 0, 1) := by decide +kernel
theorem dX13_isAt_5 : decode cX13_isAt 5 = .ok (.getfield 83, 3) := by decide +kernel
theorem dX13_isAt_8 : decode cX13_isAt 8 = .ok (.if_icmp .ge 27, 3) := by decide +kernel
theorem dX13_isAt_11 : decode cX13_isAt 11 = .ok (.aload_n 0, 1) := by decide +kernel
theorem dX13_isAt_12 : decode cX13_isAt 12 = .ok (.getfield 31, 3) := by decide +kernel
theorem dX13_isAt_15 : decode cX13_isAt 15 = .ok (.aload_n 0, 1) := by decide +kernel
theorem dX13_isAt_16 : decode cX13_isAt 16 = .ok (.getfield 90, 3) := by decide +kernel
theorem dX13_isAt_19 : decode cX13_isAt 19 = .ok (.iaload, 1) := by decide +kernel
theorem dX13_isAt_20 : decode cX13_isAt 20 = .ok (.i2l, 1) := by decide +kernel
theorem dX13_isAt_21 : decode cX13_isAt 21 = .ok (.iload_n 1, 1) := by decide +kernel
theorem dX13_isAt_22 : decode cX13_isAt 22 = .ok (.i2l, 1) := by decide +kernel
theorem dX13_isAt_23 : decode cX13_isAt 23 = .ok (.iload_n 2, 1) := by decide +kernel
theorem dX13_isAt_24 : decode cX13_isAt 24 = .ok (.i2l, 1) := by decide +kernel
theorem dX13_isAt_25 : decode cX13_isAt 25 = .ok (.invokestatic 86, 3) := by decide +kernel
theorem dX13_isAt_28 : decode cX13_isAt 28 = .ok (.ifCond .eq 7, 3) := by decide +kernel
theorem dX13_isAt_31 : decode cX13_isAt 31 = .ok (.iconst 1, 1) := by decide +kernel
theorem dX13_isAt_32 : decode cX13_isAt 32 = .ok (.goto 4, 3) := by decide +kernel
theorem dX13_isAt_35 : decode cX13_isAt 35 = .ok (.iconst 0, 1) := by decide +kernel
theorem dX13_isAt_36 : decode cX13_isAt 36 = .ok (.ireturn, 1) := by decide +kernel
theorem dX13_next_0 : decode cX13_next 0 = .ok (.aload_n 0, 1) := by decide +kernel
theorem dX13_next_1 : decode cX13_next 1 = .ok (.bipush 32, 2) := by decide +kernel
theorem dX13_next_3 : decode cX13_next 3 = .ok (.bipush 32, 2) := by decide +kernel
theorem dX13_next_5 : decode cX13_next 5 = .ok (.invokevirtual 93, 3) := by decide +kernel
theorem dX13_next_8 : decode cX13_next 8 = .ok (.ifCond .ne 14, 3) := by decide +kernel
theorem dX13_next_11 : decode cX13_next 11 = .ok (.aload_n 0, 1) := by decide +kernel
theorem dX13_next_12 : decode cX13_next 12 = .ok (.bipush 10, 2) := by decide +kernel
theorem dX13_next_14 : decode cX13_next 14 = .ok (.bipush 10, 2) := by decide +kernel
theorem dX13_next_16 : decode cX13_next 16 = .ok (.invokevirtual 93, 3) := by decide +kernel
theorem dX13_next_19 : decode cX13_next 19 = .ok (.ifCond .eq 16, 3) := by decide +kernel
theorem dX13_next_22 : decode cX13_next 22 = .ok (.aload_n 0, 1) := by decide +kernel
theorem dX13_next_23 : decode cX13_next 23 = .ok (.dup, 1) := by decide +kernel
theorem dX13_next_24 : decode cX13_next 24 = .ok (.getfield 90, 3) := by decide +kernel
theorem dX13_next_27 : decode cX13_next 27 = .ok (.iconst 1, 1) := by decide +kernel
theorem dX13_next_28 : decode cX13_next 28 = .ok (.iadd, 1) := by decide +kernel
theorem dX13_next_29 : decode cX13_next 29 = .ok (.putfield 90, 3) := by decide +kernel
theorem dX13_next_32 : decode cX13_next 32 = .ok (.goto (-32), 3) := by decide +kernel
theorem dX13_next_35 : decode cX13_next 35 = .ok (.aload_n 0, 1) := by decide +kernel
theorem dX13_next_36 : decode cX13_next 36 = .ok (.aload_n 0, 1) := by decide +kernel
theorem dX13_next_37 : decode cX13_next 37 = .ok (.getfield 90, 3) := by decide +kernel
theorem dX13_next_40 : decode cX13_next 40 = .ok (.putfield 97, 3) := by decide +kernel
theorem dX13_next_43 : decode cX13_next 43 = .ok (.aload_n 0, 1) := by decide +kernel
theorem dX13_next_44 : decode cX13_next 44 = .ok (.iconst 0, 1) := by decide +kernel
theorem dX13_next_45 : decode cX13_next 45 = .ok (.putfield 100, 3) := by decide +kernel
theorem dX13_next_48 : decode cX13_next 48 = .ok (.aload_n 0, 1) := by decide +kernel
theorem dX13_next_49 : decode cX13_next 49 = .ok (.getfield 90, 3) := by decide +kernel
theorem dX13_next_52 : decode cX13_next 52 = .ok (.aload_n 0, 1) := by decide +kernel
theorem dX13_next_53 : decode cX13_next 53 = .ok (.getfield 83, 3) := by decide +kernel
theorem dX13_next_56 : decode cX13_next 56 = .ok (.if_icmp .ne 11, 3) := by decide +kernel
theorem dX13_next_59 : decode cX13_next 59 = .ok (.aload_n 0, 1) := by decide +kernel
theorem dX13_next_60 : decode cX13_next 60 = .ok (.iconst 0, 1) := by decide +kernel
theorem dX13_next_61 : decode cX13_next 61 = .ok (.putfield 103, 3) := by decide +kernel
theorem dX13_next_64 : decode cX13_next 64 = .ok (.goto 143, 3) := by decide +kernel
theorem dX13_next_67 : decode cX13_next 67 = .ok (.aload_n 0, 1) := by decide +kernel
theorem dX13_next_68 : decode cX13_next 68 = .ok (.bipush 97, 2) := by decide +kernel
theorem dX13_next_70 : decode cX13_next 70 = .ok (.bipush 122, 2) := by decide +kernel
theorem dX13_next_72 : decode cX13_next 72 = .ok (.invokevirtual 93, 3) := by decide +kernel
theorem dX13_next_75 : decode cX13_next 75 = .ok (.ifCond .eq 32, 3) := by decide +kernel
theorem dX13_next_78 : decode cX13_next 78 = .ok (.aload_n 0, 1) := by decide +kernel
theorem dX13_next_79 : decode cX13_next 79 = .ok (.iconst 1, 1) := by decide +kernel
theorem dX13_next_80 : decode cX13_next 80 = .ok (.putfield 103, 3) := by decide +kernel
theorem dX13_next_83 : decode cX13_next 83 = .ok (.aload_n 0, 1) := by decide +kernel
theorem dX13_next_84 : decode cX13_next 84 = .ok (.bipush 97, 2) := by decide +kernel
theorem dX13_next_86 : decode cX13_next 86 = .ok (.bipush 122, 2) := by decide +kernel
theorem dX13_next_88 : decode cX13_next 88 = .ok (.invokevirtual 93, 3) := by decide +kernel
theorem dX13_next_91 : decode cX13_next 91 = .ok (.ifCond .eq 116, 3) := by decide +kernel
theorem dX13_next_94 : decode cX13_next 94 = .ok (.aload_n 0, 1) := by decide +kernel
theorem dX13_next_95 : decode cX13_next 95 = .ok (.dup, 1) := by decide +kernel
theorem dX13_next_96 : decode cX13_next 96 = .ok (.getfield 90, 3) := by decide +kernel
theorem dX13_next_99 : decode cX13_next 99 = .ok (.iconst 1, 1) := by decide +kernel
