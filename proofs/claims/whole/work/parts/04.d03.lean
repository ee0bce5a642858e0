theorem dX8_greatest_0 : decode cX8_greatest 0 = .ok (.aload_n 0, 1) := by decide +kernel
theorem dX8_greatest_1 : decode cX8_greatest 1 = .ok (.getfield 27, 3) := by decide +kernel
theorem dX8_greatest_4 : decode cX8_greatest 4 = .ok (.ifCond .ne 7, 3) := by decide +kernel
theorem dX8_greatest_7 : decode cX8_greatest 7 = .ok (.iconst (-1), 1) := by decide +kernel
theorem dX8_greatest_8 : decode cX8_greatest 8 = .ok (.goto 14, 3) := by decide +kernel
theorem dX8_greatest_11 : decode cX8_greatest 11 = .ok (.aload_n 0, 1) := by decide +kernel
theorem dX8_greatest_12 : decode cX8_greatest 12 = .ok (.getfield 9, 3) := by decide +kernel
theorem dX8_greatest_15 : decode cX8_greatest 15 = .ok (.aload_n 0, 1) := by decide +kernel
theorem dX8_greatest_16 : decode cX8_greatest 16 = .ok (.getfield 27, 3) := by decide +kernel
theorem dX8_greatest_19 : decode cX8_greatest 19 = .ok (.iconst 1, 1) := by decide +kernel
theorem dX8_greatest_20 : decode cX8_greatest 20 = .ok (.isub, 1) := by decide +kernel
theorem dX8_greatest_21 : decode cX8_greatest 21 = .ok (.iaload, 1) := by decide +kernel
theorem dX8_greatest_22 : decode cX8_greatest 22 = .ok (.ireturn, 1) := by decide +kernel
theorem dX8_below_0 : decode cX8_below 0 = .ok (.iconst 0, 1) := by decide +kernel
theorem dX8_below_1 : decode cX8_below 1 = .ok (.istore_n 2, 1) := by decide +kernel
theorem dX8_below_2 : decode cX8_below 2 = .ok (.iload_n 2, 1) := by decide +kernel
theorem dX8_below_3 : decode cX8_below 3 = .ok (.aload_n 0, 1) := by decide +kernel
theorem dX8_below_4 : decode cX8_below 4 = .ok (.getfield 27, 3) := by decide +kernel
theorem dX8_below_7 : decode cX8_below 7 = .ok (.if_icmp .ge 19, 3) := by decide +kernel
theorem dX8_below_10 : decode cX8_below 10 = .ok (.aload_n 0, 1) := by decide +kernel
theorem dX8_below_11 : decode cX8_below 11 = .ok (.getfield 9, 3) := by decide +kernel
theorem dX8_below_14 : decode cX8_below 14 = .ok (.iload_n 2, 1) := by decide +kernel
theorem dX8_below_15 : decode cX8_below 15 = .ok (.iaload, 1) := by decide +kernel
theorem dX8_below_16 : decode cX8_below 16 = .ok (.iload_n 1, 1) := by decide +kernel
theorem dX8_below_17 : decode cX8_below 17 = .ok (.if_icmp .ge 9, 3) := by decide +kernel
theorem dX8_below_20 : decode cX8_below 20 = .ok (.iinc 2 1, 3) := by decide +kernel
theorem dX8_below_23 : decode cX8_below 23 = .ok (.goto (-21), 3) := by decide +kernel
theorem dX8_below_26 : decode cX8_below 26 = .ok (.iload_n 2, 1) := by decide +kernel
theorem dX8_below_27 : decode cX8_below 27 = .ok (.ireturn, 1) := by decide +kernel
theorem dX8_scoresTogether_0 : decode cX8_scoresTogether 0 = .ok (.lconst 0, 1) := by decide +kernel
theorem dX8_scoresTogether_1 : decode cX8_scoresTogether 1 = .ok (.lstore_n 3, 1) := by decide +kernel
theorem dX8_scoresTogether_2 : decode cX8_scoresTogether 2 = .ok (.iconst 0, 1) := by decide +kernel
theorem dX8_scoresTogether_3 : decode cX8_scoresTogether 3 = .ok (.istore 5, 2) := by decide +kernel
theorem dX8_scoresTogether_5 : decode cX8_scoresTogether 5 = .ok (.iload 5, 2) := by decide +kernel
theorem dX8_scoresTogether_7 : decode cX8_scoresTogether 7 = .ok (.aload_n 0, 1) := by decide +kernel
theorem dX8_scoresTogether_8 : decode cX8_scoresTogether 8 = .ok (.getfield 27, 3) := by decide +kernel
theorem dX8_scoresTogether_11 : decode cX8_scoresTogether 11 = .ok (.if_icmp .ge 41, 3) := by decide +kernel
theorem dX8_scoresTogether_14 : decode cX8_scoresTogether 14 = .ok (.lload_n 3, 1) := by decide +kernel
theorem dX8_scoresTogether_15 : decode cX8_scoresTogether 15 = .ok (.aload_n 0, 1) := by decide +kernel
theorem dX8_scoresTogether_16 : decode cX8_scoresTogether 16 = .ok (.getfield 9, 3) := by decide +kernel
theorem dX8_scoresTogether_19 : decode cX8_scoresTogether 19 = .ok (.iload 5, 2) := by decide +kernel
theorem dX8_scoresTogether_21 : decode cX8_scoresTogether 21 = .ok (.iaload, 1) := by decide +kernel
theorem dX8_scoresTogether_22 : decode cX8_scoresTogether 22 = .ok (.i2l, 1) := by decide +kernel
theorem dX8_scoresTogether_23 : decode cX8_scoresTogether 23 = .ok (.iload_n 1, 1) := by decide +kernel
theorem dX8_scoresTogether_24 : decode cX8_scoresTogether 24 = .ok (.aload_n 0, 1) := by decide +kernel
theorem dX8_scoresTogether_25 : decode cX8_scoresTogether 25 = .ok (.getfield 15, 3) := by decide +kernel
theorem dX8_scoresTogether_28 : decode cX8_scoresTogether 28 = .ok (.iload 5, 2) := by decide +kernel
theorem dX8_scoresTogether_30 : decode cX8_scoresTogether 30 = .ok (.iaload, 1) := by decide +kernel
theorem dX8_scoresTogether_31 : decode cX8_scoresTogether 31 = .ok (.imul, 1) := by decide +kernel
theorem dX8_scoresTogether_32 : decode cX8_scoresTogether 32 = .ok (.iload_n 2, 1) := by decide +kernel
theorem dX8_scoresTogether_33 : decode cX8_scoresTogether 33 = .ok (.aload_n 0, 1) := by decide +kernel
theorem dX8_scoresTogether_34 : decode cX8_scoresTogether 34 = .ok (.getfield 18, 3) := by decide +kernel
theorem dX8_scoresTogether_37 : decode cX8_scoresTogether 37 = .ok (.iload 5, 2) := by decide +kernel
theorem dX8_scoresTogether_39 : decode cX8_scoresTogether 39 = .ok (.iaload, 1) := by decide +kernel
theorem dX8_scoresTogether_40 : decode cX8_scoresTogether 40 = .ok (.imul, 1) := by decide +kernel
theorem dX8_scoresTogether_41 : decode cX8_scoresTogether 41 = .ok (.iadd, 1) := by decide +kernel
theorem dX8_scoresTogether_42 : decode cX8_scoresTogether 42 = .ok (.i2l, 1) := by decide +kernel
theorem dX8_scoresTogether_43 : decode cX8_scoresTogether 43 = .ok (.lmul, 1) := by decide +kernel
theorem dX8_scoresTogether_44 : decode cX8_scoresTogether 44 = .ok (.ladd, 1) := by decide +kernel
theorem dX8_scoresTogether_45 : decode cX8_scoresTogether 45 = .ok (.lstore_n 3, 1) := by decide +kernel
theorem dX8_scoresTogether_46 : decode cX8_scoresTogether 46 = .ok (.iinc 5 1, 3) := by decide +kernel
theorem dX8_scoresTogether_49 : decode cX8_scoresTogether 49 = .ok (.goto (-44), 3) := by decide +kernel
theorem dX8_scoresTogether_52 : decode cX8_scoresTogether 52 = .ok (.lload_n 3, 1) := by decide +kernel
theorem dX8_scoresTogether_53 : decode cX8_scoresTogether 53 = .ok (.lreturn, 1) := by decide +kernel
theorem dX8_halvesInOrder_0 : decode cX8_halvesInOrder 0 = .ok (.lconst 0, 1) := by decide +kernel
theorem dX8_halvesInOrder_1 : decode cX8_halvesInOrder 1 = .ok (.lstore_n 1, 1) := by decide +kernel
theorem dX8_halvesInOrder_2 : decode cX8_halvesInOrder 2 = .ok (.iconst 0, 1) := by decide +kernel
theorem dX8_halvesInOrder_3 : decode cX8_halvesInOrder 3 = .ok (.istore_n 3, 1) := by decide +kernel
theorem dX8_halvesInOrder_4 : decode cX8_halvesInOrder 4 = .ok (.iload_n 3, 1) := by decide +kernel
theorem dX8_halvesInOrder_5 : decode cX8_halvesInOrder 5 = .ok (.aload_n 0, 1) := by decide +kernel
theorem dX8_halvesInOrder_6 : decode cX8_halvesInOrder 6 = .ok (.getfield 27, 3) := by decide +kernel
theorem dX8_halvesInOrder_9 : decode cX8_halvesInOrder 9 = .ok (.if_icmp .ge 36, 3) := by decide +kernel
theorem dX8_halvesInOrder_12 : decode cX8_halvesInOrder 12 = .ok (.lload_n 1, 1) := by decide +kernel
theorem dX8_halvesInOrder_13 : decode cX8_halvesInOrder 13 = .ok (.aload_n 0, 1) := by decide +kernel
theorem dX8_halvesInOrder_14 : decode cX8_halvesInOrder 14 = .ok (.getfield 15, 3) := by decide +kernel
theorem dX8_halvesInOrder_17 : decode cX8_halvesInOrder 17 = .ok (.iload_n 3, 1) := by decide +kernel
theorem dX8_halvesInOrder_18 : decode cX8_halvesInOrder 18 = .ok (.iaload, 1) := by decide +kernel
theorem dX8_halvesInOrder_19 : decode cX8_halvesInOrder 19 = .ok (.i2l, 1) := by decide +kernel
theorem dX8_halvesInOrder_20 : decode cX8_halvesInOrder 20 = .ok (.iconst 2, 1) := by decide +kernel
theorem dX8_halvesInOrder_21 : decode cX8_halvesInOrder 21 = .ok (.aload_n 0, 1) := by decide +kernel
theorem dX8_halvesInOrder_22 : decode cX8_halvesInOrder 22 = .ok (.getfield 24, 3) := by decide +kernel
theorem dX8_halvesInOrder_25 : decode cX8_halvesInOrder 25 = .ok (.iload_n 3, 1) := by decide +kernel
theorem dX8_halvesInOrder_26 : decode cX8_halvesInOrder 26 = .ok (.iaload, 1) := by decide +kernel
theorem dX8_halvesInOrder_27 : decode cX8_halvesInOrder 27 = .ok (.imul, 1) := by decide +kernel
theorem dX8_halvesInOrder_28 : decode cX8_halvesInOrder 28 = .ok (.aload_n 0, 1) := by decide +kernel
theorem dX8_halvesInOrder_29 : decode cX8_halvesInOrder 29 = .ok (.getfield 18, 3) := by decide +kernel
theorem dX8_halvesInOrder_32 : decode cX8_halvesInOrder 32 = .ok (.iload_n 3, 1) := by decide +kernel
theorem dX8_halvesInOrder_33 : decode cX8_halvesInOrder 33 = .ok (.iaload, 1) := by decide +kernel
theorem dX8_halvesInOrder_34 : decode cX8_halvesInOrder 34 = .ok (.iadd, 1) := by decide +kernel
theorem dX8_halvesInOrder_35 : decode cX8_halvesInOrder 35 = .ok (.i2l, 1) := by decide +kernel
theorem dX8_halvesInOrder_36 : decode cX8_halvesInOrder 36 = .ok (.lmul, 1) := by decide +kernel
theorem dX8_halvesInOrder_37 : decode cX8_halvesInOrder 37 = .ok (.ladd, 1) := by decide +kernel
theorem dX8_halvesInOrder_38 : decode cX8_halvesInOrder 38 = .ok (.lstore_n 1, 1) := by decide +kernel
theorem dX8_halvesInOrder_39 : decode cX8_halvesInOrder 39 = .ok (.iinc 3 1, 3) := by decide +kernel
theorem dX8_halvesInOrder_42 : decode cX8_halvesInOrder 42 = .ok (.goto (-38), 3) := by decide +kernel
theorem dX8_halvesInOrder_45 : decode cX8_halvesInOrder 45 = .ok (.lload_n 1, 1) := by decide +kernel
theorem dX8_halvesInOrder_46 : decode cX8_halvesInOrder 46 = .ok (.lreturn, 1) := by decide +kernel
theorem dX8_apart_0 : decode cX8_apart 0 = .ok (.aload_n 0, 1) := by decide +kernel
theorem dX8_apart_1 : decode cX8_apart 1 = .ok (.getfield 21, 3) := by decide +kernel
theorem dX8_apart_4 : decode cX8_apart 4 = .ok (.iload_n 1, 1) := by decide +kernel
theorem dX8_apart_5 : decode cX8_apart 5 = .ok (.iconst 1, 1) := by decide +kernel
theorem dX8_apart_6 : decode cX8_apart 6 = .ok (.iadd, 1) := by decide +kernel
theorem dX8_apart_7 : decode cX8_apart 7 = .ok (.iaload, 1) := by decide +kernel
theorem dX8_apart_8 : decode cX8_apart 8 = .ok (.i2l, 1) := by decide +kernel
theorem dX8_apart_9 : decode cX8_apart 9 = .ok (.aload_n 0, 1) := by decide +kernel
theorem dX8_apart_10 : decode cX8_apart 10 = .ok (.invokevirtual 66, 3) := by decide +kernel
theorem dX8_apart_13 : decode cX8_apart 13 = .ok (.i2l, 1) := by decide +kernel
theorem dX8_apart_14 : decode cX8_apart 14 = .ok (.lmul, 1) := by decide +kernel
theorem dX8_apart_15 : decode cX8_apart 15 = .ok (.aload_n 0, 1) := by decide +kernel
theorem dX8_apart_16 : decode cX8_apart 16 = .ok (.getfield 24, 3) := by decide +kernel
theorem dX8_apart_19 : decode cX8_apart 19 = .ok (.iload_n 1, 1) := by decide +kernel
theorem dX8_apart_20 : decode cX8_apart 20 = .ok (.iconst 1, 1) := by decide +kernel
theorem dX8_apart_21 : decode cX8_apart 21 = .ok (.iadd, 1) := by decide +kernel
theorem dX8_apart_22 : decode cX8_apart 22 = .ok (.iaload, 1) := by decide +kernel
theorem dX8_apart_23 : decode cX8_apart 23 = .ok (.i2l, 1) := by decide +kernel
theorem dX8_apart_24 : decode cX8_apart 24 = .ok (.aload_n 0, 1) := by decide +kernel
theorem dX8_apart_25 : decode cX8_apart 25 = .ok (.invokevirtual 63, 3) := by decide +kernel
theorem dX8_apart_28 : decode cX8_apart 28 = .ok (.i2l, 1) := by decide +kernel
theorem dX8_apart_29 : decode cX8_apart 29 = .ok (.lmul, 1) := by decide +kernel
theorem dX8_apart_30 : decode cX8_apart 30 = .ok (.lsub, 1) := by decide +kernel
theorem dX8_apart_31 : decode cX8_apart 31 = .ok (.invokestatic 75, 3) := by decide +kernel
theorem dX8_apart_34 : decode cX8_apart 34 = .ok (.lreturn, 1) := by decide +kernel
theorem dX8_farthest_0 : decode cX8_farthest 0 = .ok (.iconst 0, 1) := by decide +kernel
theorem dX8_farthest_1 : decode cX8_farthest 1 = .ok (.istore_n 1, 1) := by decide +kernel
theorem dX8_farthest_2 : decode cX8_farthest 2 = .ok (.iconst 1, 1) := by decide +kernel
theorem dX8_farthest_3 : decode cX8_farthest 3 = .ok (.istore_n 2, 1) := by decide +kernel
theorem dX8_farthest_4 : decode cX8_farthest 4 = .ok (.iload_n 2, 1) := by decide +kernel
theorem dX8_farthest_5 : decode cX8_farthest 5 = .ok (.aload_n 0, 1) := by decide +kernel
theorem dX8_farthest_6 : decode cX8_farthest 6 = .ok (.getfield 27, 3) := by decide +kernel
theorem dX8_farthest_9 : decode cX8_farthest 9 = .ok (.if_icmp .ge 25, 3) := by decide +kernel
theorem dX8_farthest_12 : decode cX8_farthest 12 = .ok (.aload_n 0, 1) := by decide +kernel
theorem dX8_farthest_13 : decode cX8_farthest 13 = .ok (.iload_n 2, 1) := by decide +kernel
theorem dX8_farthest_14 : decode cX8_farthest 14 = .ok (.invokevirtual 79, 3) := by decide +kernel
theorem dX8_farthest_17 : decode cX8_farthest 17 = .ok (.aload_n 0, 1) := by decide +kernel
theorem dX8_farthest_18 : decode cX8_farthest 18 = .ok (.iload_n 1, 1) := by decide +kernel
theorem dX8_farthest_19 : decode cX8_farthest 19 = .ok (.invokevirtual 79, 3) := by decide +kernel
theorem dX8_farthest_22 : decode cX8_farthest 22 = .ok (.lcmp, 1) := by decide +kernel
theorem dX8_farthest_23 : decode cX8_farthest 23 = .ok (.ifCond .le 5, 3) := by decide +kernel
theorem dX8_farthest_26 : decode cX8_farthest 26 = .ok (.iload_n 2, 1) := by decide +kernel
theorem dX8_farthest_27 : decode cX8_farthest 27 = .ok (.istore_n 1, 1) := by decide +kernel
theorem dX8_farthest_28 : decode cX8_farthest 28 = .ok (.iinc 2 1, 3) := by decide +kernel
theorem dX8_farthest_31 : decode cX8_farthest 31 = .ok (.goto (-27), 3) := by decide +kernel
theorem dX8_farthest_34 : decode cX8_farthest 34 = .ok (.iload_n 1, 1) := by decide +kernel
theorem dX8_farthest_35 : decode cX8_farthest 35 = .ok (.ireturn, 1) := by decide +kernel
theorem dX8_isRiskier_0 : decode cX8_isRiskier 0 = .ok (.aload_n 0, 1) := by decide +kernel
theorem dX8_isRiskier_1 : decode cX8_isRiskier 1 = .ok (.getfield 18, 3) := by decide +kernel
theorem dX8_isRiskier_4 : decode cX8_isRiskier 4 = .ok (.iload_n 1, 1) := by decide +kernel
theorem dX8_isRiskier_5 : decode cX8_isRiskier 5 = .ok (.iaload, 1) := by decide +kernel
theorem dX8_isRiskier_6 : decode cX8_isRiskier 6 = .ok (.aload_n 0, 1) := by decide +kernel
theorem dX8_isRiskier_7 : decode cX8_isRiskier 7 = .ok (.getfield 15, 3) := by decide +kernel
theorem dX8_isRiskier_10 : decode cX8_isRiskier 10 = .ok (.iload_n 2, 1) := by decide +kernel
theorem dX8_isRiskier_11 : decode cX8_isRiskier 11 = .ok (.iaload, 1) := by decide +kernel
theorem dX8_isRiskier_12 : decode cX8_isRiskier 12 = .ok (.aload_n 0, 1) := by decide +kernel
theorem dX8_isRiskier_13 : decode cX8_isRiskier 13 = .ok (.getfield 18, 3) := by decide +kernel
theorem dX8_isRiskier_16 : decode cX8_isRiskier 16 = .ok (.iload_n 2, 1) := by decide +kernel
theorem dX8_isRiskier_17 : decode cX8_isRiskier 17 = .ok (.iaload, 1) := by decide +kernel
theorem dX8_isRiskier_18 : decode cX8_isRiskier 18 = .ok (.iadd, 1) := by decide +kernel
theorem dX8_isRiskier_19 : decode cX8_isRiskier 19 = .ok (.imul, 1) := by decide +kernel
theorem dX8_isRiskier_20 : decode cX8_isRiskier 20 = .ok (.aload_n 0, 1) := by decide +kernel
theorem dX8_isRiskier_21 : decode cX8_isRiskier 21 = .ok (.getfield 18, 3) := by decide +kernel
theorem dX8_isRiskier_24 : decode cX8_isRiskier 24 = .ok (.iload_n 2, 1) := by decide +kernel
theorem dX8_isRiskier_25 : decode cX8_isRiskier 25 = .ok (.iaload, 1) := by decide +kernel
theorem dX8_isRiskier_26 : decode cX8_isRiskier 26 = .ok (.aload_n 0, 1) := by decide +kernel
theorem dX8_isRiskier_27 : decode cX8_isRiskier 27 = .ok (.getfield 15, 3) := by decide +kernel
theorem dX8_isRiskier_30 : decode cX8_isRiskier 30 = .ok (.iload_n 1, 1) := by decide +kernel
theorem dX8_isRiskier_31 : decode cX8_isRiskier 31 = .ok (.iaload, 1) := by decide +kernel
theorem dX8_isRiskier_32 : decode cX8_isRiskier 32 = .ok (.aload_n 0, 1) := by decide +kernel
theorem dX8_isRiskier_33 : decode cX8_isRiskier 33 = .ok (.getfield 18, 3) := by decide +kernel
theorem dX8_isRiskier_36 : decode cX8_isRiskier 36 = .ok (.iload_n 1, 1) := by decide +kernel
theorem dX8_isRiskier_37 : decode cX8_isRiskier 37 = .ok (.iaload, 1) := by decide +kernel
theorem dX8_isRiskier_38 : decode cX8_isRiskier 38 = .ok (.iadd, 1) := by decide +kernel
theorem dX8_isRiskier_39 : decode cX8_isRiskier 39 = .ok (.imul, 1) := by decide +kernel
theorem dX8_isRiskier_40 : decode cX8_isRiskier 40 = .ok (.if_icmp .le 7, 3) := by decide +kernel
theorem dX8_isRiskier_43 : decode cX8_isRiskier 43 = .ok (.iconst 1, 1) := by decide +kernel
theorem dX8_isRiskier_44 : decode cX8_isRiskier 44 = .ok (.goto 4, 3) := by decide +kernel
theorem dX8_isRiskier_47 : decode cX8_isRiskier 47 = .ok (.iconst 0, 1) := by decide +kernel
theorem dX8_isRiskier_48 : decode cX8_isRiskier 48 = .ok (.ireturn, 1) := by decide +kernel
theorem dX8_cutBehind_0 : decode cX8_cutBehind 0 = .ok (.iload_n 1, 1) := by decide +kernel
theorem dX8_cutBehind_1 : decode cX8_cutBehind 1 = .ok (.ifCond .ne 7, 3) := by decide +kernel
theorem dX8_cutBehind_4 : decode cX8_cutBehind 4 = .ok (.iconst 0, 1) := by decide +kernel
theorem dX8_cutBehind_5 : decode cX8_cutBehind 5 = .ok (.goto 13, 3) := by decide +kernel
theorem dX8_cutBehind_8 : decode cX8_cutBehind 8 = .ok (.aload_n 0, 1) := by decide +kernel
theorem dX8_cutBehind_9 : decode cX8_cutBehind 9 = .ok (.getfield 9, 3) := by decide +kernel
theorem dX8_cutBehind_12 : decode cX8_cutBehind 12 = .ok (.iload_n 1, 1) := by decide +kernel
theorem dX8_cutBehind_13 : decode cX8_cutBehind 13 = .ok (.iconst 1, 1) := by decide +kernel
theorem dX8_cutBehind_14 : decode cX8_cutBehind 14 = .ok (.isub, 1) := by decide +kernel
theorem dX8_cutBehind_15 : decode cX8_cutBehind 15 = .ok (.iaload, 1) := by decide +kernel
theorem dX8_cutBehind_16 : decode cX8_cutBehind 16 = .ok (.iconst 1, 1) := by decide +kernel
theorem dX8_cutBehind_17 : decode cX8_cutBehind 17 = .ok (.iadd, 1) := by decide +kernel
theorem dX8_cutBehind_18 : decode cX8_cutBehind 18 = .ok (.ireturn, 1) := by decide +kernel
theorem dX8_costBehind_0 : decode cX8_costBehind 0 = .ok (.iload_n 2, 1) := by decide +kernel
theorem dX8_costBehind_1 : decode cX8_costBehind 1 = .ok (.aload_n 0, 1) := by decide +kernel
theorem dX8_costBehind_2 : decode cX8_costBehind 2 = .ok (.getfield 21, 3) := by decide +kernel
theorem dX8_costBehind_5 : decode cX8_costBehind 5 = .ok (.iload_n 1, 1) := by decide +kernel
theorem dX8_costBehind_6 : decode cX8_costBehind 6 = .ok (.iaload, 1) := by decide +kernel
theorem dX8_costBehind_7 : decode cX8_costBehind 7 = .ok (.imul, 1) := by decide +kernel
theorem dX8_costBehind_8 : decode cX8_costBehind 8 = .ok (.iload_n 3, 1) := by decide +kernel
theorem dX8_costBehind_9 : decode cX8_costBehind 9 = .ok (.aload_n 0, 1) := by decide +kernel
theorem dX8_costBehind_10 : decode cX8_costBehind 10 = .ok (.invokevirtual 66, 3) := by decide +kernel
theorem dX8_costBehind_13 : decode cX8_costBehind 13 = .ok (.aload_n 0, 1) := by decide +kernel
theorem dX8_costBehind_14 : decode cX8_costBehind 14 = .ok (.getfield 24, 3) := by decide +kernel
theorem dX8_costBehind_17 : decode cX8_costBehind 17 = .ok (.iload_n 1, 1) := by decide +kernel
theorem dX8_costBehind_18 : decode cX8_costBehind 18 = .ok (.iaload, 1) := by decide +kernel
theorem dX8_costBehind_19 : decode cX8_costBehind 19 = .ok (.isub, 1) := by decide +kernel
theorem dX8_costBehind_20 : decode cX8_costBehind 20 = .ok (.imul, 1) := by decide +kernel
theorem dX8_costBehind_21 : decode cX8_costBehind 21 = .ok (.iadd, 1) := by decide +kernel
theorem dX8_costBehind_22 : decode cX8_costBehind 22 = .ok (.ireturn, 1) := by decide +kernel
theorem dX8_cheapest_0 : decode cX8_cheapest 0 = .ok (.iconst 0, 1) := by decide +kernel
theorem dX8_cheapest_1 : decode cX8_cheapest 1 = .ok (.istore_n 3, 1) := by decide +kernel
theorem dX8_cheapest_2 : decode cX8_cheapest 2 = .ok (.iconst 1, 1) := by decide +kernel
theorem dX8_cheapest_3 : decode cX8_cheapest 3 = .ok (.istore 4, 2) := by decide +kernel
theorem dX8_cheapest_5 : decode cX8_cheapest 5 = .ok (.iload 4, 2) := by decide +kernel
theorem dX8_cheapest_7 : decode cX8_cheapest 7 = .ok (.aload_n 0, 1) := by decide +kernel
theorem dX8_cheapest_8 : decode cX8_cheapest 8 = .ok (.getfield 27, 3) := by decide +kernel
theorem dX8_cheapest_11 : decode cX8_cheapest 11 = .ok (.if_icmp .gt 30, 3) := by decide +kernel
theorem dX8_cheapest_14 : decode cX8_cheapest 14 = .ok (.aload_n 0, 1) := by decide +kernel
theorem dX8_cheapest_15 : decode cX8_cheapest 15 = .ok (.iload 4, 2) := by decide +kernel
theorem dX8_cheapest_17 : decode cX8_cheapest 17 = .ok (.iload_n 1, 1) := by decide +kernel
theorem dX8_cheapest_18 : decode cX8_cheapest 18 = .ok (.iload_n 2, 1) := by decide +kernel
theorem dX8_cheapest_19 : decode cX8_cheapest 19 = .ok (.invokevirtual 83, 3) := by decide +kernel
theorem dX8_cheapest_22 : decode cX8_cheapest 22 = .ok (.aload_n 0, 1) := by decide +kernel
theorem dX8_cheapest_23 : decode cX8_cheapest 23 = .ok (.iload_n 3, 1) := by decide +kernel
theorem dX8_cheapest_24 : decode cX8_cheapest 24 = .ok (.iload_n 1, 1) := by decide +kernel
theorem dX8_cheapest_25 : decode cX8_cheapest 25 = .ok (.iload_n 2, 1) := by decide +kernel
theorem dX8_cheapest_26 : decode cX8_cheapest 26 = .ok (.invokevirtual 83, 3) := by decide +kernel
theorem dX8_cheapest_29 : decode cX8_cheapest 29 = .ok (.if_icmp .ge 6, 3) := by decide +kernel
theorem dX8_cheapest_32 : decode cX8_cheapest 32 = .ok (.iload 4, 2) := by decide +kernel
theorem dX8_cheapest_34 : decode cX8_cheapest 34 = .ok (.istore_n 3, 1) := by decide +kernel
theorem dX8_cheapest_35 : decode cX8_cheapest 35 = .ok (.iinc 4 1, 3) := by decide +kernel
theorem dX8_cheapest_38 : decode cX8_cheapest 38 = .ok (.goto (-33), 3) := by decide +kernel
theorem dX8_cheapest_41 : decode cX8_cheapest 41 = .ok (.iload_n 3, 1) := by decide +kernel
theorem dX8_cheapest_42 : decode cX8_cheapest 42 = .ok (.ireturn, 1) := by decide +kernel
theorem dX8_leastCutOf_0 : decode cX8_leastCutOf 0 = .ok (.iconst 0, 1) := by decide +kernel
theorem dX8_leastCutOf_1 : decode cX8_leastCutOf 1 = .ok (.istore_n 2, 1) := by decide +kernel
theorem dX8_leastCutOf_2 : decode cX8_leastCutOf 2 = .ok (.iload_n 2, 1) := by decide +kernel
theorem dX8_leastCutOf_3 : decode cX8_leastCutOf 3 = .ok (.aload_n 0, 1) := by decide +kernel
theorem dX8_leastCutOf_4 : decode cX8_leastCutOf 4 = .ok (.getfield 27, 3) := by decide +kernel
theorem dX8_leastCutOf_7 : decode cX8_leastCutOf 7 = .ok (.if_icmp .ge 47, 3) := by decide +kernel
theorem dX8_leastCutOf_10 : decode cX8_leastCutOf 10 = .ok (.aload_n 0, 1) := by decide +kernel
theorem dX8_leastCutOf_11 : decode cX8_leastCutOf 11 = .ok (.invokevirtual 44, 3) := by decide +kernel
theorem dX8_leastCutOf_14 : decode cX8_leastCutOf 14 = .ok (.aload_n 0, 1) := by decide +kernel
theorem dX8_leastCutOf_15 : decode cX8_leastCutOf 15 = .ok (.iload_n 2, 1) := by decide +kernel
theorem dX8_leastCutOf_16 : decode cX8_leastCutOf 16 = .ok (.invokevirtual 56, 3) := by decide +kernel
theorem dX8_leastCutOf_19 : decode cX8_leastCutOf 19 = .ok (.isub, 1) := by decide +kernel
theorem dX8_leastCutOf_20 : decode cX8_leastCutOf 20 = .ok (.istore_n 3, 1) := by decide +kernel
theorem dX8_leastCutOf_21 : decode cX8_leastCutOf 21 = .ok (.aload_n 0, 1) := by decide +kernel
theorem dX8_leastCutOf_22 : decode cX8_leastCutOf 22 = .ok (.invokevirtual 66, 3) := by decide +kernel
theorem dX8_leastCutOf_25 : decode cX8_leastCutOf 25 = .ok (.aload_n 0, 1) := by decide +kernel
theorem dX8_leastCutOf_26 : decode cX8_leastCutOf 26 = .ok (.getfield 24, 3) := by decide +kernel
theorem dX8_leastCutOf_29 : decode cX8_leastCutOf 29 = .ok (.iload_n 2, 1) := by decide +kernel
theorem dX8_leastCutOf_30 : decode cX8_leastCutOf 30 = .ok (.iaload, 1) := by decide +kernel
theorem dX8_leastCutOf_31 : decode cX8_leastCutOf 31 = .ok (.isub, 1) := by decide +kernel
theorem dX8_leastCutOf_32 : decode cX8_leastCutOf 32 = .ok (.sipush 1000, 3) := by decide +kernel
theorem dX8_leastCutOf_35 : decode cX8_leastCutOf 35 = .ok (.imul, 1) := by decide +kernel
theorem dX8_leastCutOf_36 : decode cX8_leastCutOf 36 = .ok (.iload_n 1, 1) := by decide +kernel
theorem dX8_leastCutOf_37 : decode cX8_leastCutOf 37 = .ok (.iload_n 3, 1) := by decide +kernel
theorem dX8_leastCutOf_38 : decode cX8_leastCutOf 38 = .ok (.imul, 1) := by decide +kernel
theorem dX8_leastCutOf_39 : decode cX8_leastCutOf 39 = .ok (.if_icmp .gt 9, 3) := by decide +kernel
theorem dX8_leastCutOf_42 : decode cX8_leastCutOf 42 = .ok (.aload_n 0, 1) := by decide +kernel
theorem dX8_leastCutOf_43 : decode cX8_leastCutOf 43 = .ok (.iload_n 2, 1) := by decide +kernel
theorem dX8_leastCutOf_44 : decode cX8_leastCutOf 44 = .ok (.invokevirtual 87, 3) := by decide +kernel
theorem dX8_leastCutOf_47 : decode cX8_leastCutOf 47 = .ok (.ireturn, 1) := by decide +kernel
theorem dX8_leastCutOf_48 : decode cX8_leastCutOf 48 = .ok (.iinc 2 1, 3) := by decide +kernel
theorem dX8_leastCutOf_51 : decode cX8_leastCutOf 51 = .ok (.goto (-49), 3) := by decide +kernel
theorem dX8_leastCutOf_54 : decode cX8_leastCutOf 54 = .ok (.iconst (-1), 1) := by decide +kernel
theorem dX8_leastCutOf_55 : decode cX8_leastCutOf 55 = .ok (.ireturn, 1) := by decide +kernel
theorem dX8_greatestCutOf_0 : decode cX8_greatestCutOf 0 = .ok (.aload_n 0, 1) := by decide +kernel
theorem dX8_greatestCutOf_1 : decode cX8_greatestCutOf 1 = .ok (.getfield 27, 3) := by decide +kernel
theorem dX8_greatestCutOf_4 : decode cX8_greatestCutOf 4 = .ok (.ifCond .ne 5, 3) := by decide +kernel
theorem dX8_greatestCutOf_7 : decode cX8_greatestCutOf 7 = .ok (.iconst (-1), 1) := by decide +kernel
theorem dX8_greatestCutOf_8 : decode cX8_greatestCutOf 8 = .ok (.ireturn, 1) := by decide +kernel
theorem dX8_greatestCutOf_9 : decode cX8_greatestCutOf 9 = .ok (.iload_n 1, 1) := by decide +kernel
theorem dX8_greatestCutOf_10 : decode cX8_greatestCutOf 10 = .ok (.ifCond .ne 7, 3) := by decide +kernel
theorem dX8_greatestCutOf_13 : decode cX8_greatestCutOf 13 = .ok (.sipush 1000, 3) := by decide +kernel
theorem dX8_greatestCutOf_16 : decode cX8_greatestCutOf 16 = .ok (.ireturn, 1) := by decide +kernel
theorem dX8_greatestCutOf_17 : decode cX8_greatestCutOf 17 = .ok (.aload_n 0, 1) := by decide +kernel
theorem dX8_greatestCutOf_18 : decode cX8_greatestCutOf 18 = .ok (.getfield 27, 3) := by decide +kernel
theorem dX8_greatestCutOf_21 : decode cX8_greatestCutOf 21 = .ok (.iconst 1, 1) := by decide +kernel
theorem dX8_greatestCutOf_22 : decode cX8_greatestCutOf 22 = .ok (.isub, 1) := by decide +kernel
theorem dX8_greatestCutOf_23 : decode cX8_greatestCutOf 23 = .ok (.istore_n 2, 1) := by decide +kernel
theorem dX8_greatestCutOf_24 : decode cX8_greatestCutOf 24 = .ok (.iload_n 2, 1) := by decide +kernel
theorem dX8_greatestCutOf_25 : decode cX8_greatestCutOf 25 = .ok (.ifCond .le 39, 3) := by decide +kernel
theorem dX8_greatestCutOf_28 : decode cX8_greatestCutOf 28 = .ok (.aload_n 0, 1) := by decide +kernel
theorem dX8_greatestCutOf_29 : decode cX8_greatestCutOf 29 = .ok (.invokevirtual 44, 3) := by decide +kernel
theorem dX8_greatestCutOf_32 : decode cX8_greatestCutOf 32 = .ok (.aload_n 0, 1) := by decide +kernel
theorem dX8_greatestCutOf_33 : decode cX8_greatestCutOf 33 = .ok (.iload_n 2, 1) := by decide +kernel
theorem dX8_greatestCutOf_34 : decode cX8_greatestCutOf 34 = .ok (.invokevirtual 56, 3) := by decide +kernel
theorem dX8_greatestCutOf_37 : decode cX8_greatestCutOf 37 = .ok (.isub, 1) := by decide +kernel
theorem dX8_greatestCutOf_38 : decode cX8_greatestCutOf 38 = .ok (.sipush 1000, 3) := by decide +kernel
theorem dX8_greatestCutOf_41 : decode cX8_greatestCutOf 41 = .ok (.imul, 1) := by decide +kernel
theorem dX8_greatestCutOf_42 : decode cX8_greatestCutOf 42 = .ok (.iload_n 1, 1) := by decide +kernel
theorem dX8_greatestCutOf_43 : decode cX8_greatestCutOf 43 = .ok (.aload_n 0, 1) := by decide +kernel
theorem dX8_greatestCutOf_44 : decode cX8_greatestCutOf 44 = .ok (.invokevirtual 44, 3) := by decide +kernel
theorem dX8_greatestCutOf_47 : decode cX8_greatestCutOf 47 = .ok (.imul, 1) := by decide +kernel
theorem dX8_greatestCutOf_48 : decode cX8_greatestCutOf 48 = .ok (.if_icmp .lt 10, 3) := by decide +kernel
theorem dX8_greatestCutOf_51 : decode cX8_greatestCutOf 51 = .ok (.aload_n 0, 1) := by decide +kernel
theorem dX8_greatestCutOf_52 : decode cX8_greatestCutOf 52 = .ok (.getfield 9, 3) := by decide +kernel
theorem dX8_greatestCutOf_55 : decode cX8_greatestCutOf 55 = .ok (.iload_n 2, 1) := by decide +kernel
theorem dX8_greatestCutOf_56 : decode cX8_greatestCutOf 56 = .ok (.iaload, 1) := by decide +kernel
theorem dX8_greatestCutOf_57 : decode cX8_greatestCutOf 57 = .ok (.ireturn, 1) := by decide +kernel
theorem dX8_greatestCutOf_58 : decode cX8_greatestCutOf 58 = .ok (.iinc 2 (-1), 3) := by decide +kernel
theorem dX8_greatestCutOf_61 : decode cX8_greatestCutOf 61 = .ok (.goto (-37), 3) := by decide +kernel
theorem dX8_greatestCutOf_64 : decode cX8_greatestCutOf 64 = .ok (.aload_n 0, 1) := by decide +kernel
theorem dX8_greatestCutOf_65 : decode cX8_greatestCutOf 65 = .ok (.getfield 9, 3) := by decide +kernel
theorem dX8_greatestCutOf_68 : decode cX8_greatestCutOf 68 = .ok (.iconst 0, 1) := by decide +kernel
theorem dX8_greatestCutOf_69 : decode cX8_greatestCutOf 69 = .ok (.iaload, 1) := by decide +kernel
theorem dX8_greatestCutOf_70 : decode cX8_greatestCutOf 70 = .ok (.ireturn, 1) := by decide +kernel
theorem dX8_badOfFew_0 : decode cX8_badOfFew 0 = .ok (.iconst 0, 1) := by decide +kernel
theorem dX8_badOfFew_1 : decode cX8_badOfFew 1 = .ok (.istore_n 2, 1) := by decide +kernel
theorem dX8_badOfFew_2 : decode cX8_badOfFew 2 = .ok (.iload_n 2, 1) := by decide +kernel
theorem dX8_badOfFew_3 : decode cX8_badOfFew 3 = .ok (.aload_n 0, 1) := by decide +kernel
theorem dX8_badOfFew_4 : decode cX8_badOfFew 4 = .ok (.getfield 27, 3) := by decide +kernel
theorem dX8_badOfFew_7 : decode cX8_badOfFew 7 = .ok (.if_icmp .ge 34, 3) := by decide +kernel
theorem dX8_badOfFew_10 : decode cX8_badOfFew 10 = .ok (.aload_n 0, 1) := by decide +kernel
theorem dX8_badOfFew_11 : decode cX8_badOfFew 11 = .ok (.iload_n 2, 1) := by decide +kernel
theorem dX8_badOfFew_12 : decode cX8_badOfFew 12 = .ok (.invokevirtual 56, 3) := by decide +kernel
theorem dX8_badOfFew_15 : decode cX8_badOfFew 15 = .ok (.sipush 1000, 3) := by decide +kernel
theorem dX8_badOfFew_18 : decode cX8_badOfFew 18 = .ok (.imul, 1) := by decide +kernel
theorem dX8_badOfFew_19 : decode cX8_badOfFew 19 = .ok (.iload_n 1, 1) := by decide +kernel
theorem dX8_badOfFew_20 : decode cX8_badOfFew 20 = .ok (.aload_n 0, 1) := by decide +kernel
theorem dX8_badOfFew_21 : decode cX8_badOfFew 21 = .ok (.invokevirtual 44, 3) := by decide +kernel
theorem dX8_badOfFew_24 : decode cX8_badOfFew 24 = .ok (.imul, 1) := by decide +kernel
theorem dX8_badOfFew_25 : decode cX8_badOfFew 25 = .ok (.if_icmp .lt 10, 3) := by decide +kernel
theorem dX8_badOfFew_28 : decode cX8_badOfFew 28 = .ok (.aload_n 0, 1) := by decide +kernel
theorem dX8_badOfFew_29 : decode cX8_badOfFew 29 = .ok (.getfield 24, 3) := by decide +kernel
theorem dX8_badOfFew_32 : decode cX8_badOfFew 32 = .ok (.iload_n 2, 1) := by decide +kernel
theorem dX8_badOfFew_33 : decode cX8_badOfFew 33 = .ok (.iaload, 1) := by decide +kernel
theorem dX8_badOfFew_34 : decode cX8_badOfFew 34 = .ok (.ireturn, 1) := by decide +kernel
theorem dX8_badOfFew_35 : decode cX8_badOfFew 35 = .ok (.iinc 2 1, 3) := by decide +kernel
theorem dX8_badOfFew_38 : decode cX8_badOfFew 38 = .ok (.goto (-36), 3) := by decide +kernel
theorem dX8_badOfFew_41 : decode cX8_badOfFew 41 = .ok (.aload_n 0, 1) := by decide +kernel
theorem dX8_badOfFew_42 : decode cX8_badOfFew 42 = .ok (.invokevirtual 66, 3) := by decide +kernel
theorem dX8_badOfFew_45 : decode cX8_badOfFew 45 = .ok (.ireturn, 1) := by decide +kernel
theorem dX9_scoresTogether_0 : decode cX9_scoresTogether 0 = .ok (.lconst 0, 1) := by decide +kernel
theorem dX9_scoresTogether_1 : decode cX9_scoresTogether 1 = .ok (.lstore_n 1, 1) := by decide +kernel
theorem dX9_scoresTogether_2 : decode cX9_scoresTogether 2 = .ok (.iconst 0, 1) := by decide +kernel
theorem dX9_scoresTogether_3 : decode cX9_scoresTogether 3 = .ok (.istore_n 3, 1) := by decide +kernel
theorem dX9_scoresTogether_4 : decode cX9_scoresTogether 4 = .ok (.iload_n 3, 1) := by decide +kernel
theorem dX9_scoresTogether_5 : decode cX9_scoresTogether 5 = .ok (.aload_n 0, 1) := by decide +kernel
theorem dX9_scoresTogether_6 : decode cX9_scoresTogether 6 = .ok (.getfield 13, 3) := by decide +kernel
theorem dX9_scoresTogether_9 : decode cX9_scoresTogether 9 = .ok (.if_icmp .ge 27, 3) := by decide +kernel
theorem dX9_scoresTogether_12 : decode cX9_scoresTogether 12 = .ok (.lload_n 1, 1) := by decide +kernel
theorem dX9_scoresTogether_13 : decode cX9_scoresTogether 13 = .ok (.aload_n 0, 1) := by decide +kernel
theorem dX9_scoresTogether_14 : decode cX9_scoresTogether 14 = .ok (.getfield 28, 3) := by decide +kernel
theorem dX9_scoresTogether_17 : decode cX9_scoresTogether 17 = .ok (.iload_n 3, 1) := by decide +kernel
theorem dX9_scoresTogether_18 : decode cX9_scoresTogether 18 = .ok (.iaload, 1) := by decide +kernel
theorem dX9_scoresTogether_19 : decode cX9_scoresTogether 19 = .ok (.i2l, 1) := by decide +kernel
theorem dX9_scoresTogether_20 : decode cX9_scoresTogether 20 = .ok (.aload_n 0, 1) := by decide +kernel
theorem dX9_scoresTogether_21 : decode cX9_scoresTogether 21 = .ok (.getfield 29, 3) := by decide +kernel
theorem dX9_scoresTogether_24 : decode cX9_scoresTogether 24 = .ok (.iload_n 3, 1) := by decide +kernel
theorem dX9_scoresTogether_25 : decode cX9_scoresTogether 25 = .ok (.iaload, 1) := by decide +kernel
theorem dX9_scoresTogether_26 : decode cX9_scoresTogether 26 = .ok (.i2l, 1) := by decide +kernel
theorem dX9_scoresTogether_27 : decode cX9_scoresTogether 27 = .ok (.lmul, 1) := by decide +kernel
theorem dX9_scoresTogether_28 : decode cX9_scoresTogether 28 = .ok (.ladd, 1) := by decide +kernel
theorem dX9_scoresTogether_29 : decode cX9_scoresTogether 29 = .ok (.lstore_n 1, 1) := by decide +kernel
theorem dX9_scoresTogether_30 : decode cX9_scoresTogether 30 = .ok (.iinc 3 1, 3) := by decide +kernel
theorem dX9_scoresTogether_33 : decode cX9_scoresTogether 33 = .ok (.goto (-29), 3) := by decide +kernel
theorem dX9_scoresTogether_36 : decode cX9_scoresTogether 36 = .ok (.lload_n 1, 1) := by decide +kernel
theorem dX9_scoresTogether_37 : decode cX9_scoresTogether 37 = .ok (.lreturn, 1) := by decide +kernel
theorem dX10_clear_0 : decode cX10_clear 0 = .ok (.aload_n 0, 1) := by decide +kernel
theorem dX10_clear_1 : decode cX10_clear 1 = .ok (.iconst 0, 1) := by decide +kernel
theorem dX10_clear_2 : decode cX10_clear 2 = .ok (.putfield 25, 3) := by decide +kernel
theorem dX10_clear_5 : decode cX10_clear 5 = .ok (.return_, 1) := by decide +kernel
theorem dX10_runError_0 : decode cX10_runError 0 = .ok (.aload_n 0, 1) := by decide +kernel
theorem dX10_runError_1 : decode cX10_runError 1 = .ok (.getfield 42, 3) := by decide +kernel
theorem dX10_runError_4 : decode cX10_runError 4 = .ok (.iload_n 2, 1) := by decide +kernel
theorem dX10_runError_5 : decode cX10_runError 5 = .ok (.iaload, 1) := by decide +kernel
theorem dX10_runError_6 : decode cX10_runError 6 = .ok (.aload_n 0, 1) := by decide +kernel
theorem dX10_runError_7 : decode cX10_runError 7 = .ok (.getfield 42, 3) := by decide +kernel
theorem dX10_runError_10 : decode cX10_runError 10 = .ok (.iload_n 1, 1) := by decide +kernel
theorem dX10_runError_11 : decode cX10_runError 11 = .ok (.iaload, 1) := by decide +kernel
theorem dX10_runError_12 : decode cX10_runError 12 = .ok (.isub, 1) := by decide +kernel
theorem dX10_runError_13 : decode cX10_runError 13 = .ok (.i2l, 1) := by decide +kernel
theorem dX10_runError_14 : decode cX10_runError 14 = .ok (.lstore_n 3, 1) := by decide +kernel
theorem dX10_runError_15 : decode cX10_runError 15 = .ok (.aload_n 0, 1) := by decide +kernel
theorem dX10_runError_16 : decode cX10_runError 16 = .ok (.getfield 45, 3) := by decide +kernel
theorem dX10_runError_19 : decode cX10_runError 19 = .ok (.iload_n 2, 1) := by decide +kernel
theorem dX10_runError_20 : decode cX10_runError 20 = .ok (.iaload, 1) := by decide +kernel
theorem dX10_runError_21 : decode cX10_runError 21 = .ok (.aload_n 0, 1) := by decide +kernel
theorem dX10_runError_22 : decode cX10_runError 22 = .ok (.getfield 45, 3) := by decide +kernel
theorem dX10_runError_25 : decode cX10_runError 25 = .ok (.iload_n 1, 1) := by decide +kernel
theorem dX10_runError_26 : decode cX10_runError 26 = .ok (.iaload, 1) := by decide +kernel
theorem dX10_runError_27 : decode cX10_runError 27 = .ok (.isub, 1) := by decide +kernel
theorem dX10_runError_28 : decode cX10_runError 28 = .ok (.i2l, 1) := by decide +kernel
theorem dX10_runError_29 : decode cX10_runError 29 = .ok (.lstore 5, 2) := by decide +kernel
theorem dX10_runError_31 : decode cX10_runError 31 = .ok (.lload_n 3, 1) := by decide +kernel
theorem dX10_runError_32 : decode cX10_runError 32 = .ok (.lload 5, 2) := by decide +kernel
theorem dX10_runError_34 : decode cX10_runError 34 = .ok (.lmul, 1) := by decide +kernel
theorem dX10_runError_35 : decode cX10_runError 35 = .ok (.lload_n 3, 1) := by decide +kernel
theorem dX10_runError_36 : decode cX10_runError 36 = .ok (.lload 5, 2) := by decide +kernel
theorem dX10_runError_38 : decode cX10_runError 38 = .ok (.ladd, 1) := by decide +kernel
theorem dX10_runError_39 : decode cX10_runError 39 = .ok (.invokestatic 48, 3) := by decide +kernel
theorem dX10_runError_42 : decode cX10_runError 42 = .ok (.dreturn, 1) := by decide +kernel
theorem dX10_tellFor_0 : decode cX10_tellFor 0 = .ok (.aload_n 0, 1) := by decide +kernel
theorem dX10_tellFor_1 : decode cX10_tellFor 1 = .ok (.getfield 25, 3) := by decide +kernel
theorem dX10_tellFor_4 : decode cX10_tellFor 4 = .ok (.iconst 1, 1) := by decide +kernel
theorem dX10_tellFor_5 : decode cX10_tellFor 5 = .ok (.if_icmp .ne 26, 3) := by decide +kernel
theorem dX10_tellFor_8 : decode cX10_tellFor 8 = .ok (.aload_n 0, 1) := by decide +kernel
theorem dX10_tellFor_9 : decode cX10_tellFor 9 = .ok (.getfield 22, 3) := by decide +kernel
theorem dX10_tellFor_12 : decode cX10_tellFor 12 = .ok (.iload_n 2, 1) := by decide +kernel
theorem dX10_tellFor_13 : decode cX10_tellFor 13 = .ok (.aload_n 1, 1) := by decide +kernel
theorem dX10_tellFor_14 : decode cX10_tellFor 14 = .ok (.iconst 0, 1) := by decide +kernel
theorem dX10_tellFor_15 : decode cX10_tellFor 15 = .ok (.iload_n 2, 1) := by decide +kernel
theorem dX10_tellFor_16 : decode cX10_tellFor 16 = .ok (.invokestatic 38, 3) := by decide +kernel
theorem dX10_tellFor_19 : decode cX10_tellFor 19 = .ok (.dastore, 1) := by decide +kernel
theorem dX10_tellFor_20 : decode cX10_tellFor 20 = .ok (.aload_n 0, 1) := by decide +kernel
theorem dX10_tellFor_21 : decode cX10_tellFor 21 = .ok (.getfield 15, 3) := by decide +kernel
theorem dX10_tellFor_24 : decode cX10_tellFor 24 = .ok (.bipush 61, 2) := by decide +kernel
theorem dX10_tellFor_26 : decode cX10_tellFor 26 = .ok (.iload_n 2, 1) := by decide +kernel
theorem dX10_tellFor_27 : decode cX10_tellFor 27 = .ok (.iadd, 1) := by decide +kernel
theorem dX10_tellFor_28 : decode cX10_tellFor 28 = .ok (.iconst 0, 1) := by decide +kernel
theorem dX10_tellFor_29 : decode cX10_tellFor 29 = .ok (.iastore, 1) := by decide +kernel
theorem dX10_tellFor_30 : decode cX10_tellFor 30 = .ok (.return_, 1) := by decide +kernel
theorem dX10_tellFor_31 : decode cX10_tellFor 31 = .ok (.aload_n 0, 1) := by decide +kernel
theorem dX10_tellFor_32 : decode cX10_tellFor 32 = .ok (.getfield 25, 3) := by decide +kernel
theorem dX10_tellFor_35 : decode cX10_tellFor 35 = .ok (.iconst 1, 1) := by decide +kernel
theorem dX10_tellFor_36 : decode cX10_tellFor 36 = .ok (.isub, 1) := by decide +kernel
theorem dX10_tellFor_37 : decode cX10_tellFor 37 = .ok (.istore_n 3, 1) := by decide +kernel
theorem dX10_tellFor_38 : decode cX10_tellFor 38 = .ok (.aload_n 0, 1) := by decide +kernel
theorem dX10_tellFor_39 : decode cX10_tellFor 39 = .ok (.getfield 19, 3) := by decide +kernel
theorem dX10_tellFor_42 : decode cX10_tellFor 42 = .ok (.iload_n 3, 1) := by decide +kernel
theorem dX10_tellFor_43 : decode cX10_tellFor 43 = .ok (.daload, 1) := by decide +kernel
theorem dX10_tellFor_44 : decode cX10_tellFor 44 = .ok (.aload_n 1, 1) := by decide +kernel
theorem dX10_tellFor_45 : decode cX10_tellFor 45 = .ok (.iload_n 3, 1) := by decide +kernel
theorem dX10_tellFor_46 : decode cX10_tellFor 46 = .ok (.iload_n 2, 1) := by decide +kernel
theorem dX10_tellFor_47 : decode cX10_tellFor 47 = .ok (.invokestatic 38, 3) := by decide +kernel
theorem dX10_tellFor_50 : decode cX10_tellFor 50 = .ok (.dadd, 1) := by decide +kernel
theorem dX10_tellFor_51 : decode cX10_tellFor 51 = .ok (.dstore 4, 2) := by decide +kernel
theorem dX10_tellFor_53 : decode cX10_tellFor 53 = .ok (.aload_n 0, 1) := by decide +kernel
theorem dX10_tellFor_54 : decode cX10_tellFor 54 = .ok (.getfield 25, 3) := by decide +kernel
theorem dX10_tellFor_57 : decode cX10_tellFor 57 = .ok (.istore 6, 2) := by decide +kernel
theorem dX10_tellFor_59 : decode cX10_tellFor 59 = .ok (.iload 6, 2) := by decide +kernel
theorem dX10_tellFor_61 : decode cX10_tellFor 61 = .ok (.iload_n 2, 1) := by decide +kernel
theorem dX10_tellFor_62 : decode cX10_tellFor 62 = .ok (.if_icmp .ge 41, 3) := by decide +kernel
theorem dX10_tellFor_65 : decode cX10_tellFor 65 = .ok (.aload_n 0, 1) := by decide +kernel
theorem dX10_tellFor_66 : decode cX10_tellFor 66 = .ok (.getfield 19, 3) := by decide +kernel
theorem dX10_tellFor_69 : decode cX10_tellFor 69 = .ok (.iload 6, 2) := by decide +kernel
theorem dX10_tellFor_71 : decode cX10_tellFor 71 = .ok (.daload, 1) := by decide +kernel
theorem dX10_tellFor_72 : decode cX10_tellFor 72 = .ok (.aload_n 1, 1) := by decide +kernel
theorem dX10_tellFor_73 : decode cX10_tellFor 73 = .ok (.iload 6, 2) := by decide +kernel
theorem dX10_tellFor_75 : decode cX10_tellFor 75 = .ok (.iload_n 2, 1) := by decide +kernel
theorem dX10_tellFor_76 : decode cX10_tellFor 76 = .ok (.invokestatic 38, 3) := by decide +kernel
theorem dX10_tellFor_79 : decode cX10_tellFor 79 = .ok (.dadd, 1) := by decide +kernel
theorem dX10_tellFor_80 : decode cX10_tellFor 80 = .ok (.dstore 7, 2) := by decide +kernel
theorem dX10_tellFor_82 : decode cX10_tellFor 82 = .ok (.dload 7, 2) := by decide +kernel
theorem dX10_tellFor_84 : decode cX10_tellFor 84 = .ok (.dload 4, 2) := by decide +kernel
theorem dX10_tellFor_86 : decode cX10_tellFor 86 = .ok (.dcmp .g, 1) := by decide +kernel
theorem dX10_tellFor_87 : decode cX10_tellFor 87 = .ok (.ifCond .ge 10, 3) := by decide +kernel
theorem dX10_tellFor_90 : decode cX10_tellFor 90 = .ok (.dload 7, 2) := by decide +kernel
theorem dX10_tellFor_92 : decode cX10_tellFor 92 = .ok (.dstore 4, 2) := by decide +kernel
theorem dX10_tellFor_94 : decode cX10_tellFor 94 = .ok (.iload 6, 2) := by decide +kernel
theorem dX10_tellFor_96 : decode cX10_tellFor 96 = .ok (.istore_n 3, 1) := by decide +kernel
theorem dX10_tellFor_97 : decode cX10_tellFor 97 = .ok (.iinc 6 1, 3) := by decide +kernel
theorem dX10_tellFor_100 : decode cX10_tellFor 100 = .ok (.goto (-41), 3) := by decide +kernel
theorem dX10_tellFor_103 : decode cX10_tellFor 103 = .ok (.aload_n 0, 1) := by decide +kernel
theorem dX10_tellFor_104 : decode cX10_tellFor 104 = .ok (.getfield 22, 3) := by decide +kernel
theorem dX10_tellFor_107 : decode cX10_tellFor 107 = .ok (.iload_n 2, 1) := by decide +kernel
theorem dX10_tellFor_108 : decode cX10_tellFor 108 = .ok (.dload 4, 2) := by decide +kernel
theorem dX10_tellFor_110 : decode cX10_tellFor 110 = .ok (.dastore, 1) := by decide +kernel
theorem dX10_tellFor_111 : decode cX10_tellFor 111 = .ok (.aload_n 0, 1) := by decide +kernel
theorem dX10_tellFor_112 : decode cX10_tellFor 112 = .ok (.getfield 15, 3) := by decide +kernel
theorem dX10_tellFor_115 : decode cX10_tellFor 115 = .ok (.aload_n 0, 1) := by decide +kernel
theorem dX10_tellFor_116 : decode cX10_tellFor 116 = .ok (.getfield 25, 3) := by decide +kernel
theorem dX10_tellFor_119 : decode cX10_tellFor 119 = .ok (.bipush 61, 2) := by decide +kernel
theorem dX10_tellFor_121 : decode cX10_tellFor 121 = .ok (.imul, 1) := by decide +kernel
theorem dX10_tellFor_122 : decode cX10_tellFor 122 = .ok (.iload_n 2, 1) := by decide +kernel
theorem dX10_tellFor_123 : decode cX10_tellFor 123 = .ok (.iadd, 1) := by decide +kernel
theorem dX10_tellFor_124 : decode cX10_tellFor 124 = .ok (.iload_n 3, 1) := by decide +kernel
theorem dX10_tellFor_125 : decode cX10_tellFor 125 = .ok (.iastore, 1) := by decide +kernel
theorem dX10_tellFor_126 : decode cX10_tellFor 126 = .ok (.return_, 1) := by decide +kernel
theorem dX10_firstRow_0 : decode cX10_firstRow 0 = .ok (.iload_n 3, 1) := by decide +kernel
theorem dX10_firstRow_1 : decode cX10_firstRow 1 = .ok (.istore 4, 2) := by decide +kernel
theorem dX10_firstRow_3 : decode cX10_firstRow 3 = .ok (.iload_n 1, 1) := by decide +kernel
theorem dX10_firstRow_4 : decode cX10_firstRow 4 = .ok (.istore 5, 2) := by decide +kernel
theorem dX10_firstRow_6 : decode cX10_firstRow 6 = .ok (.iload 5, 2) := by decide +kernel
theorem dX10_firstRow_8 : decode cX10_firstRow 8 = .ok (.iload_n 2, 1) := by decide +kernel
theorem dX10_firstRow_9 : decode cX10_firstRow 9 = .ok (.if_icmp .le 24, 3) := by decide +kernel
theorem dX10_firstRow_12 : decode cX10_firstRow 12 = .ok (.aload_n 0, 1) := by decide +kernel
theorem dX10_firstRow_13 : decode cX10_firstRow 13 = .ok (.getfield 15, 3) := by decide +kernel
theorem dX10_firstRow_16 : decode cX10_firstRow 16 = .ok (.iload 5, 2) := by decide +kernel
theorem dX10_firstRow_18 : decode cX10_firstRow 18 = .ok (.bipush 61, 2) := by decide +kernel
theorem dX10_firstRow_20 : decode cX10_firstRow 20 = .ok (.imul, 1) := by decide +kernel
theorem dX10_firstRow_21 : decode cX10_firstRow 21 = .ok (.iload 4, 2) := by decide +kernel
theorem dX10_firstRow_23 : decode cX10_firstRow 23 = .ok (.iadd, 1) := by decide +kernel
theorem dX10_firstRow_24 : decode cX10_firstRow 24 = .ok (.iaload, 1) := by decide +kernel
theorem dX10_firstRow_25 : decode cX10_firstRow 25 = .ok (.istore 4, 2) := by decide +kernel
theorem dX10_firstRow_27 : decode cX10_firstRow 27 = .ok (.iinc 5 (-1), 3) := by decide +kernel
theorem dX10_firstRow_30 : decode cX10_firstRow 30 = .ok (.goto (-24), 3) := by decide +kernel
theorem dX10_firstRow_33 : decode cX10_firstRow 33 = .ok (.iload 4, 2) := by decide +kernel
theorem dX10_firstRow_35 : decode cX10_firstRow 35 = .ok (.ireturn, 1) := by decide +kernel
theorem dX11_fromUpper_0 : decode cX11_fromUpper 0 = .ok (.aload_n 1, 1) := by decide +kernel
theorem dX11_fromUpper_1 : decode cX11_fromUpper 1 = .ok (.getfield 44, 3) := by decide +kernel
theorem dX11_fromUpper_4 : decode cX11_fromUpper 4 = .ok (.aload_n 0, 1) := by decide +kernel
theorem dX11_fromUpper_5 : decode cX11_fromUpper 5 = .ok (.iload_n 2, 1) := by decide +kernel
theorem dX11_fromUpper_6 : decode cX11_fromUpper 6 = .ok (.invokevirtual 47, 3) := by decide +kernel
theorem dX11_fromUpper_9 : decode cX11_fromUpper 9 = .ok (.imul, 1) := by decide +kernel
theorem dX11_fromUpper_10 : decode cX11_fromUpper 10 = .ok (.aload_n 1, 1) := by decide +kernel
theorem dX11_fromUpper_11 : decode cX11_fromUpper 11 = .ok (.getfield 50, 3) := by decide +kernel
theorem dX11_fromUpper_14 : decode cX11_fromUpper 14 = .ok (.aload_n 0, 1) := by decide +kernel
theorem dX11_fromUpper_15 : decode cX11_fromUpper 15 = .ok (.invokevirtual 53, 3) := by decide +kernel
theorem dX11_fromUpper_18 : decode cX11_fromUpper 18 = .ok (.aload_n 0, 1) := by decide +kernel
theorem dX11_fromUpper_19 : decode cX11_fromUpper 19 = .ok (.getfield 57, 3) := by decide +kernel
theorem dX11_fromUpper_22 : decode cX11_fromUpper 22 = .ok (.iload_n 2, 1) := by decide +kernel
theorem dX11_fromUpper_23 : decode cX11_fromUpper 23 = .ok (.iaload, 1) := by decide +kernel
theorem dX11_fromUpper_24 : decode cX11_fromUpper 24 = .ok (.isub, 1) := by decide +kernel
theorem dX11_fromUpper_25 : decode cX11_fromUpper 25 = .ok (.imul, 1) := by decide +kernel
theorem dX11_fromUpper_26 : decode cX11_fromUpper 26 = .ok (.iadd, 1) := by decide +kernel
theorem dX11_fromUpper_27 : decode cX11_fromUpper 27 = .ok (.ireturn, 1) := by decide +kernel
theorem dX11_fromLower_0 : decode cX11_fromLower 0 = .ok (.aload_n 1, 1) := by decide +kernel
theorem dX11_fromLower_1 : decode cX11_fromLower 1 = .ok (.getfield 35, 3) := by decide +kernel
theorem dX11_fromLower_4 : decode cX11_fromLower 4 = .ok (.aload_n 0, 1) := by decide +kernel
theorem dX11_fromLower_5 : decode cX11_fromLower 5 = .ok (.getfield 40, 3) := by decide +kernel
theorem dX11_fromLower_8 : decode cX11_fromLower 8 = .ok (.iload_n 2, 1) := by decide +kernel
theorem dX11_fromLower_9 : decode cX11_fromLower 9 = .ok (.iaload, 1) := by decide +kernel
theorem dX11_fromLower_10 : decode cX11_fromLower 10 = .ok (.imul, 1) := by decide +kernel
theorem dX11_fromLower_11 : decode cX11_fromLower 11 = .ok (.aload_n 1, 1) := by decide +kernel
theorem dX11_fromLower_12 : decode cX11_fromLower 12 = .ok (.getfield 44, 3) := by decide +kernel
theorem dX11_fromLower_15 : decode cX11_fromLower 15 = .ok (.aload_n 0, 1) := by decide +kernel
theorem dX11_fromLower_16 : decode cX11_fromLower 16 = .ok (.iload_n 2, 1) := by decide +kernel
theorem dX11_fromLower_17 : decode cX11_fromLower 17 = .ok (.invokevirtual 47, 3) := by decide +kernel
theorem dX11_fromLower_20 : decode cX11_fromLower 20 = .ok (.imul, 1) := by decide +kernel
theorem dX11_fromLower_21 : decode cX11_fromLower 21 = .ok (.isub, 1) := by decide +kernel
theorem dX11_fromLower_22 : decode cX11_fromLower 22 = .ok (.ireturn, 1) := by decide +kernel
theorem dX11_seek_0 : decode cX11_seek 0 = .ok (.aload_n 1, 1) := by decide +kernel
theorem dX11_seek_1 : decode cX11_seek 1 = .ok (.getfield 7, 3) := by decide +kernel
theorem dX11_seek_4 : decode cX11_seek 4 = .ok (.istore_n 3, 1) := by decide +kernel
theorem dX11_seek_5 : decode cX11_seek 5 = .ok (.aload_n 1, 1) := by decide +kernel
theorem dX11_seek_6 : decode cX11_seek 6 = .ok (.getfield 7, 3) := by decide +kernel
theorem dX11_seek_9 : decode cX11_seek 9 = .ok (.istore 4, 2) := by decide +kernel
theorem dX11_seek_11 : decode cX11_seek 11 = .ok (.aload_n 1, 1) := by decide +kernel
theorem dX11_seek_12 : decode cX11_seek 12 = .ok (.getfield 7, 3) := by decide +kernel
theorem dX11_seek_15 : decode cX11_seek 15 = .ok (.istore 5, 2) := by decide +kernel
theorem dX11_seek_17 : decode cX11_seek 17 = .ok (.aload_n 1, 1) := by decide +kernel
theorem dX11_seek_18 : decode cX11_seek 18 = .ok (.getfield 7, 3) := by decide +kernel
theorem dX11_seek_21 : decode cX11_seek 21 = .ok (.istore 6, 2) := by decide +kernel
theorem dX11_seek_23 : decode cX11_seek 23 = .ok (.iload 6, 2) := by decide +kernel
theorem dX11_seek_25 : decode cX11_seek 25 = .ok (.ifCond .lt 73, 3) := by decide +kernel
theorem dX11_seek_28 : decode cX11_seek 28 = .ok (.aload_n 1, 1) := by decide +kernel
theorem dX11_seek_29 : decode cX11_seek 29 = .ok (.aload_n 2, 1) := by decide +kernel
theorem dX11_seek_30 : decode cX11_seek 30 = .ok (.iload 6, 2) := by decide +kernel
theorem dX11_seek_32 : decode cX11_seek 32 = .ok (.invokestatic 13, 3) := by decide +kernel
theorem dX11_seek_35 : decode cX11_seek 35 = .ok (.aload_n 1, 1) := by decide +kernel
theorem dX11_seek_36 : decode cX11_seek 36 = .ok (.aload_n 2, 1) := by decide +kernel
theorem dX11_seek_37 : decode cX11_seek 37 = .ok (.iload 5, 2) := by decide +kernel
theorem dX11_seek_39 : decode cX11_seek 39 = .ok (.invokestatic 13, 3) := by decide +kernel
theorem dX11_seek_42 : decode cX11_seek 42 = .ok (.if_icmp .gt 7, 3) := by decide +kernel
theorem dX11_seek_45 : decode cX11_seek 45 = .ok (.iload 6, 2) := by decide +kernel
theorem dX11_seek_47 : decode cX11_seek 47 = .ok (.istore 5, 2) := by decide +kernel
theorem dX11_seek_49 : decode cX11_seek 49 = .ok (.aload_n 1, 1) := by decide +kernel
theorem dX11_seek_50 : decode cX11_seek 50 = .ok (.aload_n 2, 1) := by decide +kernel
theorem dX11_seek_51 : decode cX11_seek 51 = .ok (.iload 6, 2) := by decide +kernel
theorem dX11_seek_53 : decode cX11_seek 53 = .ok (.invokestatic 19, 3) := by decide +kernel
theorem dX11_seek_56 : decode cX11_seek 56 = .ok (.aload_n 1, 1) := by decide +kernel
theorem dX11_seek_57 : decode cX11_seek 57 = .ok (.aload_n 2, 1) := by decide +kernel
theorem dX11_seek_58 : decode cX11_seek 58 = .ok (.iload 5, 2) := by decide +kernel
theorem dX11_seek_60 : decode cX11_seek 60 = .ok (.invokestatic 13, 3) := by decide +kernel
theorem dX11_seek_63 : decode cX11_seek 63 = .ok (.iadd, 1) := by decide +kernel
theorem dX11_seek_64 : decode cX11_seek 64 = .ok (.istore 7, 2) := by decide +kernel
theorem dX11_seek_66 : decode cX11_seek 66 = .ok (.iload 7, 2) := by decide +kernel
theorem dX11_seek_68 : decode cX11_seek 68 = .ok (.aload_n 1, 1) := by decide +kernel
theorem dX11_seek_69 : decode cX11_seek 69 = .ok (.aload_n 2, 1) := by decide +kernel
theorem dX11_seek_70 : decode cX11_seek 70 = .ok (.iload_n 3, 1) := by decide +kernel
theorem dX11_seek_71 : decode cX11_seek 71 = .ok (.invokestatic 19, 3) := by decide +kernel
theorem dX11_seek_74 : decode cX11_seek 74 = .ok (.aload_n 1, 1) := by decide +kernel
theorem dX11_seek_75 : decode cX11_seek 75 = .ok (.aload_n 2, 1) := by decide +kernel
theorem dX11_seek_76 : decode cX11_seek 76 = .ok (.iload 4, 2) := by decide +kernel
theorem dX11_seek_78 : decode cX11_seek 78 = .ok (.invokestatic 13, 3) := by decide +kernel
theorem dX11_seek_81 : decode cX11_seek 81 = .ok (.iadd, 1) := by decide +kernel
theorem dX11_seek_82 : decode cX11_seek 82 = .ok (.if_icmp .gt 10, 3) := by decide +kernel
theorem dX11_seek_85 : decode cX11_seek 85 = .ok (.iload 6, 2) := by decide +kernel
theorem dX11_seek_87 : decode cX11_seek 87 = .ok (.istore_n 3, 1) := by decide +kernel
theorem dX11_seek_88 : decode cX11_seek 88 = .ok (.iload 5, 2) := by decide +kernel
theorem dX11_seek_90 : decode cX11_seek 90 = .ok (.istore 4, 2) := by decide +kernel
theorem dX11_seek_92 : decode cX11_seek 92 = .ok (.iinc 6 (-1), 3) := by decide +kernel
theorem dX11_seek_95 : decode cX11_seek 95 = .ok (.goto (-72), 3) := by decide +kernel
theorem dX11_seek_98 : decode cX11_seek 98 = .ok (.aload_n 0, 1) := by decide +kernel
theorem dX11_seek_99 : decode cX11_seek 99 = .ok (.aload_n 1, 1) := by decide +kernel
theorem dX11_seek_100 : decode cX11_seek 100 = .ok (.iload_n 3, 1) := by decide +kernel
theorem dX11_seek_101 : decode cX11_seek 101 = .ok (.invokevirtual 22, 3) := by decide +kernel
theorem dX11_seek_104 : decode cX11_seek 104 = .ok (.putfield 26, 3) := by decide +kernel
theorem dX11_seek_107 : decode cX11_seek 107 = .ok (.aload_n 0, 1) := by decide +kernel
theorem dX11_seek_108 : decode cX11_seek 108 = .ok (.aload_n 1, 1) := by decide +kernel
theorem dX11_seek_109 : decode cX11_seek 109 = .ok (.iload 4, 2) := by decide +kernel
theorem dX11_seek_111 : decode cX11_seek 111 = .ok (.invokevirtual 22, 3) := by decide +kernel
theorem dX11_seek_114 : decode cX11_seek 114 = .ok (.putfield 29, 3) := by decide +kernel
theorem dX11_seek_117 : decode cX11_seek 117 = .ok (.aload_n 0, 1) := by decide +kernel
theorem dX11_seek_118 : decode cX11_seek 118 = .ok (.aload_n 1, 1) := by decide +kernel
theorem dX11_seek_119 : decode cX11_seek 119 = .ok (.aload_n 2, 1) := by decide +kernel
theorem dX11_seek_120 : decode cX11_seek 120 = .ok (.iload_n 3, 1) := by decide +kernel
theorem dX11_seek_121 : decode cX11_seek 121 = .ok (.invokestatic 19, 3) := by decide +kernel
theorem dX11_seek_124 : decode cX11_seek 124 = .ok (.aload_n 1, 1) := by decide +kernel
theorem dX11_seek_125 : decode cX11_seek 125 = .ok (.aload_n 2, 1) := by decide +kernel
theorem dX11_seek_126 : decode cX11_seek 126 = .ok (.iload 4, 2) := by decide +kernel
theorem dX11_seek_128 : decode cX11_seek 128 = .ok (.invokestatic 13, 3) := by decide +kernel
theorem dX11_seek_131 : decode cX11_seek 131 = .ok (.iadd, 1) := by decide +kernel
theorem dX11_seek_132 : decode cX11_seek 132 = .ok (.putfield 32, 3) := by decide +kernel
theorem dX11_seek_135 : decode cX11_seek 135 = .ok (.return_, 1) := by decide +kernel
theorem dX11_advice_0 : decode cX11_advice 0 = .ok (.iload_n 1, 1) := by decide +kernel
theorem dX11_advice_1 : decode cX11_advice 1 = .ok (.aload_n 0, 1) := by decide +kernel
theorem dX11_advice_2 : decode cX11_advice 2 = .ok (.getfield 26, 3) := by decide +kernel
theorem dX11_advice_5 : decode cX11_advice 5 = .ok (.if_icmp .ge 5, 3) := by decide +kernel
theorem dX11_advice_8 : decode cX11_advice 8 = .ok (.iconst 0, 1) := by decide +kernel
theorem dX11_advice_9 : decode cX11_advice 9 = .ok (.ireturn, 1) := by decide +kernel
theorem dX11_advice_10 : decode cX11_advice 10 = .ok (.iload_n 1, 1) := by decide +kernel
theorem dX11_advice_11 : decode cX11_advice 11 = .ok (.aload_n 0, 1) := by decide +kernel
theorem dX11_advice_12 : decode cX11_advice 12 = .ok (.getfield 29, 3) := by decide +kernel
theorem dX11_advice_15 : decode cX11_advice 15 = .ok (.if_icmp .ge 7, 3) := by decide +kernel
theorem dX11_advice_18 : decode cX11_advice 18 = .ok (.iconst 1, 1) := by decide +kernel
theorem dX11_advice_19 : decode cX11_advice 19 = .ok (.goto 4, 3) := by decide +kernel
theorem dX11_advice_22 : decode cX11_advice 22 = .ok (.iconst 2, 1) := by decide +kernel
theorem dX11_advice_23 : decode cX11_advice 23 = .ok (.ireturn, 1) := by decide +kernel
