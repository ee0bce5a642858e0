theorem dX13_two_39 : decode cX13_two 39 = .ok (.goto 8, 3) := by decide +kernel
theorem dX13_two_42 : decode cX13_two 42 = .ok (.aload_n 0, 1) := by decide +kernel
theorem dX13_two_43 : decode cX13_two 43 = .ok (.getfield 326, 3) := by decide +kernel
theorem dX13_two_46 : decode cX13_two 46 = .ok (.l2i, 1) := by decide +kernel
theorem dX13_two_47 : decode cX13_two 47 = .ok (.ireturn, 1) := by decide +kernel
theorem dX13_would_0 : decode cX13_would 0 = .ok (.iload_n 1, 1) := by decide +kernel
theorem dX13_would_1 : decode cX13_would 1 = .ok (.i2l, 1) := by decide +kernel
theorem dX13_would_2 : decode cX13_would 2 = .ok (.lconst 0, 1) := by decide +kernel
theorem dX13_would_3 : decode cX13_would 3 = .ok (.ldc2_w 149, 3) := by decide +kernel
theorem dX13_would_6 : decode cX13_would 6 = .ok (.invokestatic 86, 3) := by decide +kernel
theorem dX13_would_9 : decode cX13_would 9 = .ok (.ifCond .eq 15, 3) := by decide +kernel
theorem dX13_would_12 : decode cX13_would 12 = .ok (.iload_n 2, 1) := by decide +kernel
theorem dX13_would_13 : decode cX13_would 13 = .ok (.i2l, 1) := by decide +kernel
theorem dX13_would_14 : decode cX13_would 14 = .ok (.lconst 0, 1) := by decide +kernel
theorem dX13_would_15 : decode cX13_would 15 = .ok (.ldc2_w 149, 3) := by decide +kernel
theorem dX13_would_18 : decode cX13_would 18 = .ok (.invokestatic 86, 3) := by decide +kernel
theorem dX13_would_21 : decode cX13_would 21 = .ok (.ifCond .ne 6, 3) := by decide +kernel
theorem dX13_would_24 : decode cX13_would 24 = .ok (.bipush (-2), 2) := by decide +kernel
theorem dX13_would_26 : decode cX13_would 26 = .ok (.ireturn, 1) := by decide +kernel
theorem dX13_would_27 : decode cX13_would 27 = .ok (.aload_n 0, 1) := by decide +kernel
theorem dX13_would_28 : decode cX13_would 28 = .ok (.invokevirtual 309, 3) := by decide +kernel
theorem dX13_would_31 : decode cX13_would 31 = .ok (.aload_n 0, 1) := by decide +kernel
theorem dX13_would_32 : decode cX13_would 32 = .ok (.iload_n 1, 1) := by decide +kernel
theorem dX13_would_33 : decode cX13_would 33 = .ok (.iload_n 2, 1) := by decide +kernel
theorem dX13_would_34 : decode cX13_would 34 = .ok (.invokevirtual 315, 3) := by decide +kernel
theorem dX13_would_37 : decode cX13_would 37 = .ok (.ireturn, 1) := by decide +kernel
theorem dX13_isMille_0 : decode cX13_isMille 0 = .ok (.iload_n 0, 1) := by decide +kernel
theorem dX13_isMille_1 : decode cX13_isMille 1 = .ok (.i2l, 1) := by decide +kernel
theorem dX13_isMille_2 : decode cX13_isMille 2 = .ok (.lconst 0, 1) := by decide +kernel
theorem dX13_isMille_3 : decode cX13_isMille 3 = .ok (.ldc2_w 307, 3) := by decide +kernel
theorem dX13_isMille_6 : decode cX13_isMille 6 = .ok (.invokestatic 86, 3) := by decide +kernel
theorem dX13_isMille_9 : decode cX13_isMille 9 = .ok (.ireturn, 1) := by decide +kernel
theorem dX13_accepted_0 : decode cX13_accepted 0 = .ok (.aload_n 0, 1) := by decide +kernel
theorem dX13_accepted_1 : decode cX13_accepted 1 = .ok (.invokevirtual 333, 3) := by decide +kernel
theorem dX13_accepted_4 : decode cX13_accepted 4 = .ok (.aload_n 0, 1) := by decide +kernel
theorem dX13_accepted_5 : decode cX13_accepted 5 = .ok (.invokevirtual 299, 3) := by decide +kernel
theorem dX13_accepted_8 : decode cX13_accepted 8 = .ok (.ladd, 1) := by decide +kernel
theorem dX13_accepted_9 : decode cX13_accepted 9 = .ok (.aload_n 0, 1) := by decide +kernel
theorem dX13_accepted_10 : decode cX13_accepted 10 = .ok (.getfield 60, 3) := by decide +kernel
theorem dX13_accepted_13 : decode cX13_accepted 13 = .ok (.iconst 2, 1) := by decide +kernel
theorem dX13_accepted_14 : decode cX13_accepted 14 = .ok (.iload_n 1, 1) := by decide +kernel
theorem dX13_accepted_15 : decode cX13_accepted 15 = .ok (.imul, 1) := by decide +kernel
theorem dX13_accepted_16 : decode cX13_accepted 16 = .ok (.laload, 1) := by decide +kernel
theorem dX13_accepted_17 : decode cX13_accepted 17 = .ok (.lsub, 1) := by decide +kernel
theorem dX13_accepted_18 : decode cX13_accepted 18 = .ok (.aload_n 0, 1) := by decide +kernel
theorem dX13_accepted_19 : decode cX13_accepted 19 = .ok (.getfield 60, 3) := by decide +kernel
theorem dX13_accepted_22 : decode cX13_accepted 22 = .ok (.iconst 2, 1) := by decide +kernel
theorem dX13_accepted_23 : decode cX13_accepted 23 = .ok (.iload_n 1, 1) := by decide +kernel
theorem dX13_accepted_24 : decode cX13_accepted 24 = .ok (.imul, 1) := by decide +kernel
theorem dX13_accepted_25 : decode cX13_accepted 25 = .ok (.iconst 1, 1) := by decide +kernel
theorem dX13_accepted_26 : decode cX13_accepted 26 = .ok (.iadd, 1) := by decide +kernel
theorem dX13_accepted_27 : decode cX13_accepted 27 = .ok (.laload, 1) := by decide +kernel
theorem dX13_accepted_28 : decode cX13_accepted 28 = .ok (.lsub, 1) := by decide +kernel
theorem dX13_accepted_29 : decode cX13_accepted 29 = .ok (.lreturn, 1) := by decide +kernel
theorem dX13_limit_0 : decode cX13_limit 0 = .ok (.iload_n 1, 1) := by decide +kernel
theorem dX13_limit_1 : decode cX13_limit 1 = .ok (.invokestatic 336, 3) := by decide +kernel
theorem dX13_limit_4 : decode cX13_limit 4 = .ok (.ifCond .ne 6, 3) := by decide +kernel
theorem dX13_limit_7 : decode cX13_limit 7 = .ok (.bipush (-2), 2) := by decide +kernel
theorem dX13_limit_9 : decode cX13_limit 9 = .ok (.ireturn, 1) := by decide +kernel
theorem dX13_limit_10 : decode cX13_limit 10 = .ok (.aload_n 0, 1) := by decide +kernel
theorem dX13_limit_11 : decode cX13_limit 11 = .ok (.invokevirtual 309, 3) := by decide +kernel
theorem dX13_limit_14 : decode cX13_limit 14 = .ok (.iconst 0, 1) := by decide +kernel
theorem dX13_limit_15 : decode cX13_limit 15 = .ok (.istore_n 2, 1) := by decide +kernel
theorem dX13_limit_16 : decode cX13_limit 16 = .ok (.iload_n 2, 1) := by decide +kernel
theorem dX13_limit_17 : decode cX13_limit 17 = .ok (.sipush 1000, 3) := by decide +kernel
theorem dX13_limit_20 : decode cX13_limit 20 = .ok (.if_icmp .gt 52, 3) := by decide +kernel
theorem dX13_limit_23 : decode cX13_limit 23 = .ok (.aload_n 0, 1) := by decide +kernel
theorem dX13_limit_24 : decode cX13_limit 24 = .ok (.iload_n 2, 1) := by decide +kernel
theorem dX13_limit_25 : decode cX13_limit 25 = .ok (.invokevirtual 339, 3) := by decide +kernel
theorem dX13_limit_28 : decode cX13_limit 28 = .ok (.lconst 0, 1) := by decide +kernel
theorem dX13_limit_29 : decode cX13_limit 29 = .ok (.lcmp, 1) := by decide +kernel
theorem dX13_limit_30 : decode cX13_limit 30 = .ok (.ifCond .le 36, 3) := by decide +kernel
theorem dX13_limit_33 : decode cX13_limit 33 = .ok (.aload_n 0, 1) := by decide +kernel
theorem dX13_limit_34 : decode cX13_limit 34 = .ok (.invokevirtual 299, 3) := by decide +kernel
theorem dX13_limit_37 : decode cX13_limit 37 = .ok (.aload_n 0, 1) := by decide +kernel
theorem dX13_limit_38 : decode cX13_limit 38 = .ok (.getfield 60, 3) := by decide +kernel
theorem dX13_limit_41 : decode cX13_limit 41 = .ok (.iconst 2, 1) := by decide +kernel
theorem dX13_limit_42 : decode cX13_limit 42 = .ok (.iload_n 2, 1) := by decide +kernel
theorem dX13_limit_43 : decode cX13_limit 43 = .ok (.imul, 1) := by decide +kernel
theorem dX13_limit_44 : decode cX13_limit 44 = .ok (.iconst 1, 1) := by decide +kernel
theorem dX13_limit_45 : decode cX13_limit 45 = .ok (.iadd, 1) := by decide +kernel
theorem dX13_limit_46 : decode cX13_limit 46 = .ok (.laload, 1) := by decide +kernel
theorem dX13_limit_47 : decode cX13_limit 47 = .ok (.lsub, 1) := by decide +kernel
theorem dX13_limit_48 : decode cX13_limit 48 = .ok (.ldc2_w 307, 3) := by decide +kernel
theorem dX13_limit_51 : decode cX13_limit 51 = .ok (.lmul, 1) := by decide +kernel
theorem dX13_limit_52 : decode cX13_limit 52 = .ok (.iload_n 1, 1) := by decide +kernel
theorem dX13_limit_53 : decode cX13_limit 53 = .ok (.i2l, 1) := by decide +kernel
theorem dX13_limit_54 : decode cX13_limit 54 = .ok (.aload_n 0, 1) := by decide +kernel
theorem dX13_limit_55 : decode cX13_limit 55 = .ok (.iload_n 2, 1) := by decide +kernel
theorem dX13_limit_56 : decode cX13_limit 56 = .ok (.invokevirtual 339, 3) := by decide +kernel
theorem dX13_limit_59 : decode cX13_limit 59 = .ok (.lmul, 1) := by decide +kernel
theorem dX13_limit_60 : decode cX13_limit 60 = .ok (.lcmp, 1) := by decide +kernel
theorem dX13_limit_61 : decode cX13_limit 61 = .ok (.ifCond .gt 5, 3) := by decide +kernel
theorem dX13_limit_64 : decode cX13_limit 64 = .ok (.iload_n 2, 1) := by decide +kernel
theorem dX13_limit_65 : decode cX13_limit 65 = .ok (.ireturn, 1) := by decide +kernel
theorem dX13_limit_66 : decode cX13_limit 66 = .ok (.iinc 2 1, 3) := by decide +kernel
theorem dX13_limit_69 : decode cX13_limit 69 = .ok (.goto (-53), 3) := by decide +kernel
theorem dX13_limit_72 : decode cX13_limit 72 = .ok (.iconst (-1), 1) := by decide +kernel
theorem dX13_limit_73 : decode cX13_limit 73 = .ok (.ireturn, 1) := by decide +kernel
theorem dX13_accepts_0 : decode cX13_accepts 0 = .ok (.iload_n 1, 1) := by decide +kernel
theorem dX13_accepts_1 : decode cX13_accepts 1 = .ok (.invokestatic 336, 3) := by decide +kernel
theorem dX13_accepts_4 : decode cX13_accepts 4 = .ok (.ifCond .ne 6, 3) := by decide +kernel
theorem dX13_accepts_7 : decode cX13_accepts 7 = .ok (.bipush (-2), 2) := by decide +kernel
theorem dX13_accepts_9 : decode cX13_accepts 9 = .ok (.ireturn, 1) := by decide +kernel
theorem dX13_accepts_10 : decode cX13_accepts 10 = .ok (.aload_n 0, 1) := by decide +kernel
theorem dX13_accepts_11 : decode cX13_accepts 11 = .ok (.invokevirtual 309, 3) := by decide +kernel
theorem dX13_accepts_14 : decode cX13_accepts 14 = .ok (.iconst (-1), 1) := by decide +kernel
theorem dX13_accepts_15 : decode cX13_accepts 15 = .ok (.istore_n 2, 1) := by decide +kernel
theorem dX13_accepts_16 : decode cX13_accepts 16 = .ok (.iconst 0, 1) := by decide +kernel
theorem dX13_accepts_17 : decode cX13_accepts 17 = .ok (.istore_n 3, 1) := by decide +kernel
theorem dX13_accepts_18 : decode cX13_accepts 18 = .ok (.iload_n 3, 1) := by decide +kernel
theorem dX13_accepts_19 : decode cX13_accepts 19 = .ok (.sipush 1000, 3) := by decide +kernel
theorem dX13_accepts_22 : decode cX13_accepts 22 = .ok (.if_icmp .gt 46, 3) := by decide +kernel
theorem dX13_accepts_25 : decode cX13_accepts 25 = .ok (.aload_n 0, 1) := by decide +kernel
theorem dX13_accepts_26 : decode cX13_accepts 26 = .ok (.iconst 0, 1) := by decide +kernel
theorem dX13_accepts_27 : decode cX13_accepts 27 = .ok (.invokevirtual 339, 3) := by decide +kernel
theorem dX13_accepts_30 : decode cX13_accepts 30 = .ok (.lconst 0, 1) := by decide +kernel
theorem dX13_accepts_31 : decode cX13_accepts 31 = .ok (.lcmp, 1) := by decide +kernel
theorem dX13_accepts_32 : decode cX13_accepts 32 = .ok (.ifCond .le 36, 3) := by decide +kernel
theorem dX13_accepts_35 : decode cX13_accepts 35 = .ok (.aload_n 0, 1) := by decide +kernel
theorem dX13_accepts_36 : decode cX13_accepts 36 = .ok (.iload_n 3, 1) := by decide +kernel
theorem dX13_accepts_37 : decode cX13_accepts 37 = .ok (.invokevirtual 339, 3) := by decide +kernel
theorem dX13_accepts_40 : decode cX13_accepts 40 = .ok (.ldc2_w 307, 3) := by decide +kernel
theorem dX13_accepts_43 : decode cX13_accepts 43 = .ok (.lmul, 1) := by decide +kernel
theorem dX13_accepts_44 : decode cX13_accepts 44 = .ok (.iload_n 1, 1) := by decide +kernel
theorem dX13_accepts_45 : decode cX13_accepts 45 = .ok (.i2l, 1) := by decide +kernel
theorem dX13_accepts_46 : decode cX13_accepts 46 = .ok (.aload_n 0, 1) := by decide +kernel
theorem dX13_accepts_47 : decode cX13_accepts 47 = .ok (.iconst 0, 1) := by decide +kernel
theorem dX13_accepts_48 : decode cX13_accepts 48 = .ok (.invokevirtual 339, 3) := by decide +kernel
theorem dX13_accepts_51 : decode cX13_accepts 51 = .ok (.lmul, 1) := by decide +kernel
theorem dX13_accepts_52 : decode cX13_accepts 52 = .ok (.lcmp, 1) := by decide +kernel
theorem dX13_accepts_53 : decode cX13_accepts 53 = .ok (.ifCond .lt 7, 3) := by decide +kernel
theorem dX13_accepts_56 : decode cX13_accepts 56 = .ok (.iload_n 3, 1) := by decide +kernel
theorem dX13_accepts_57 : decode cX13_accepts 57 = .ok (.goto 4, 3) := by decide +kernel
theorem dX13_accepts_60 : decode cX13_accepts 60 = .ok (.iload_n 2, 1) := by decide +kernel
theorem dX13_accepts_61 : decode cX13_accepts 61 = .ok (.istore_n 2, 1) := by decide +kernel
theorem dX13_accepts_62 : decode cX13_accepts 62 = .ok (.iinc 3 1, 3) := by decide +kernel
theorem dX13_accepts_65 : decode cX13_accepts 65 = .ok (.goto (-47), 3) := by decide +kernel
theorem dX13_accepts_68 : decode cX13_accepts 68 = .ok (.iload_n 2, 1) := by decide +kernel
theorem dX13_accepts_69 : decode cX13_accepts 69 = .ok (.ireturn, 1) := by decide +kernel
theorem dX13_capture_0 : decode cX13_capture 0 = .ok (.iload_n 1, 1) := by decide +kernel
theorem dX13_capture_1 : decode cX13_capture 1 = .ok (.invokestatic 336, 3) := by decide +kernel
theorem dX13_capture_4 : decode cX13_capture 4 = .ok (.ifCond .ne 6, 3) := by decide +kernel
theorem dX13_capture_7 : decode cX13_capture 7 = .ok (.bipush (-2), 2) := by decide +kernel
theorem dX13_capture_9 : decode cX13_capture 9 = .ok (.ireturn, 1) := by decide +kernel
theorem dX13_capture_10 : decode cX13_capture 10 = .ok (.aload_n 0, 1) := by decide +kernel
theorem dX13_capture_11 : decode cX13_capture 11 = .ok (.invokevirtual 233, 3) := by decide +kernel
theorem dX13_capture_14 : decode cX13_capture 14 = .ok (.iconst 0, 1) := by decide +kernel
theorem dX13_capture_15 : decode cX13_capture 15 = .ok (.istore_n 2, 1) := by decide +kernel
theorem dX13_capture_16 : decode cX13_capture 16 = .ok (.aload_n 0, 1) := by decide +kernel
theorem dX13_capture_17 : decode cX13_capture 17 = .ok (.iconst 0, 1) := by decide +kernel
theorem dX13_capture_18 : decode cX13_capture 18 = .ok (.iload_n 2, 1) := by decide +kernel
theorem dX13_capture_19 : decode cX13_capture 19 = .ok (.iconst 2, 1) := by decide +kernel
theorem dX13_capture_20 : decode cX13_capture 20 = .ok (.invokevirtual 191, 3) := by decide +kernel
theorem dX13_capture_23 : decode cX13_capture 23 = .ok (.ldc2_w 307, 3) := by decide +kernel
theorem dX13_capture_26 : decode cX13_capture 26 = .ok (.lmul, 1) := by decide +kernel
theorem dX13_capture_27 : decode cX13_capture 27 = .ok (.iload_n 1, 1) := by decide +kernel
theorem dX13_capture_28 : decode cX13_capture 28 = .ok (.i2l, 1) := by decide +kernel
theorem dX13_capture_29 : decode cX13_capture 29 = .ok (.aload_n 0, 1) := by decide +kernel
theorem dX13_capture_30 : decode cX13_capture 30 = .ok (.iconst 0, 1) := by decide +kernel
theorem dX13_capture_31 : decode cX13_capture 31 = .ok (.aload_n 0, 1) := by decide +kernel
theorem dX13_capture_32 : decode cX13_capture 32 = .ok (.getfield 188, 3) := by decide +kernel
theorem dX13_capture_35 : decode cX13_capture 35 = .ok (.iconst 2, 1) := by decide +kernel
theorem dX13_capture_36 : decode cX13_capture 36 = .ok (.invokevirtual 191, 3) := by decide +kernel
theorem dX13_capture_39 : decode cX13_capture 39 = .ok (.lmul, 1) := by decide +kernel
theorem dX13_capture_40 : decode cX13_capture 40 = .ok (.lcmp, 1) := by decide +kernel
theorem dX13_capture_41 : decode cX13_capture 41 = .ok (.ifCond .ge 9, 3) := by decide +kernel
theorem dX13_capture_44 : decode cX13_capture 44 = .ok (.iinc 2 1, 3) := by decide +kernel
theorem dX13_capture_47 : decode cX13_capture 47 = .ok (.goto (-31), 3) := by decide +kernel
theorem dX13_capture_50 : decode cX13_capture 50 = .ok (.aload_n 0, 1) := by decide +kernel
theorem dX13_capture_51 : decode cX13_capture 51 = .ok (.iconst 0, 1) := by decide +kernel
theorem dX13_capture_52 : decode cX13_capture 52 = .ok (.iload_n 2, 1) := by decide +kernel
theorem dX13_capture_53 : decode cX13_capture 53 = .ok (.iconst 1, 1) := by decide +kernel
theorem dX13_capture_54 : decode cX13_capture 54 = .ok (.invokevirtual 191, 3) := by decide +kernel
theorem dX13_capture_57 : decode cX13_capture 57 = .ok (.l2i, 1) := by decide +kernel
theorem dX13_capture_58 : decode cX13_capture 58 = .ok (.ireturn, 1) := by decide +kernel
theorem dX13_laysDrift_0 : decode cX13_laysDrift 0 = .ok (.aload_n 0, 1) := by decide +kernel
theorem dX13_laysDrift_1 : decode cX13_laysDrift 1 = .ok (.invokevirtual 249, 3) := by decide +kernel
theorem dX13_laysDrift_4 : decode cX13_laysDrift 4 = .ok (.aload_n 0, 1) := by decide +kernel
theorem dX13_laysDrift_5 : decode cX13_laysDrift 5 = .ok (.iconst 0, 1) := by decide +kernel
theorem dX13_laysDrift_6 : decode cX13_laysDrift 6 = .ok (.aload_n 0, 1) := by decide +kernel
theorem dX13_laysDrift_7 : decode cX13_laysDrift 7 = .ok (.getfield 188, 3) := by decide +kernel
theorem dX13_laysDrift_10 : decode cX13_laysDrift 10 = .ok (.iconst 2, 1) := by decide +kernel
theorem dX13_laysDrift_11 : decode cX13_laysDrift 11 = .ok (.invokevirtual 191, 3) := by decide +kernel
theorem dX13_laysDrift_14 : decode cX13_laysDrift 14 = .ok (.lstore_n 3, 1) := by decide +kernel
theorem dX13_laysDrift_15 : decode cX13_laysDrift 15 = .ok (.aload_n 1, 1) := by decide +kernel
theorem dX13_laysDrift_16 : decode cX13_laysDrift 16 = .ok (.iload_n 2, 1) := by decide +kernel
theorem dX13_laysDrift_17 : decode cX13_laysDrift 17 = .ok (.invokestatic 184, 3) := by decide +kernel
theorem dX13_laysDrift_20 : decode cX13_laysDrift 20 = .ok (.i2l, 1) := by decide +kernel
theorem dX13_laysDrift_21 : decode cX13_laysDrift 21 = .ok (.lstore 5, 2) := by decide +kernel
theorem dX13_laysDrift_23 : decode cX13_laysDrift 23 = .ok (.lload_n 3, 1) := by decide +kernel
theorem dX13_laysDrift_24 : decode cX13_laysDrift 24 = .ok (.lconst 0, 1) := by decide +kernel
theorem dX13_laysDrift_25 : decode cX13_laysDrift 25 = .ok (.lcmp, 1) := by decide +kernel
theorem dX13_laysDrift_26 : decode cX13_laysDrift 26 = .ok (.ifCond .eq 10, 3) := by decide +kernel
theorem dX13_laysDrift_29 : decode cX13_laysDrift 29 = .ok (.lload 5, 2) := by decide +kernel
theorem dX13_laysDrift_31 : decode cX13_laysDrift 31 = .ok (.lconst 0, 1) := by decide +kernel
theorem dX13_laysDrift_32 : decode cX13_laysDrift 32 = .ok (.lcmp, 1) := by decide +kernel
theorem dX13_laysDrift_33 : decode cX13_laysDrift 33 = .ok (.ifCond .ne 5, 3) := by decide +kernel
theorem dX13_laysDrift_36 : decode cX13_laysDrift 36 = .ok (.iconst 0, 1) := by decide +kernel
theorem dX13_laysDrift_37 : decode cX13_laysDrift 37 = .ok (.ireturn, 1) := by decide +kernel
theorem dX13_laysDrift_38 : decode cX13_laysDrift 38 = .ok (.aload_n 0, 1) := by decide +kernel
theorem dX13_laysDrift_39 : decode cX13_laysDrift 39 = .ok (.lconst 0, 1) := by decide +kernel
theorem dX13_laysDrift_40 : decode cX13_laysDrift 40 = .ok (.putfield 342, 3) := by decide +kernel
theorem dX13_laysDrift_43 : decode cX13_laysDrift 43 = .ok (.aload_n 0, 1) := by decide +kernel
theorem dX13_laysDrift_44 : decode cX13_laysDrift 44 = .ok (.lload_n 3, 1) := by decide +kernel
theorem dX13_laysDrift_45 : decode cX13_laysDrift 45 = .ok (.lload 5, 2) := by decide +kernel
theorem dX13_laysDrift_47 : decode cX13_laysDrift 47 = .ok (.lmul, 1) := by decide +kernel
theorem dX13_laysDrift_48 : decode cX13_laysDrift 48 = .ok (.putfield 345, 3) := by decide +kernel
theorem dX13_laysDrift_51 : decode cX13_laysDrift 51 = .ok (.aload_n 0, 1) := by decide +kernel
theorem dX13_laysDrift_52 : decode cX13_laysDrift 52 = .ok (.iconst 0, 1) := by decide +kernel
theorem dX13_laysDrift_53 : decode cX13_laysDrift 53 = .ok (.putfield 348, 3) := by decide +kernel
theorem dX13_laysDrift_56 : decode cX13_laysDrift 56 = .ok (.ldc2_w 293, 3) := by decide +kernel
theorem dX13_laysDrift_59 : decode cX13_laysDrift 59 = .ok (.lstore 7, 2) := by decide +kernel
theorem dX13_laysDrift_61 : decode cX13_laysDrift 61 = .ok (.iconst 0, 1) := by decide +kernel
theorem dX13_laysDrift_62 : decode cX13_laysDrift 62 = .ok (.istore 9, 2) := by decide +kernel
theorem dX13_laysDrift_64 : decode cX13_laysDrift 64 = .ok (.iload 9, 2) := by decide +kernel
theorem dX13_laysDrift_66 : decode cX13_laysDrift 66 = .ok (.aload_n 0, 1) := by decide +kernel
theorem dX13_laysDrift_67 : decode cX13_laysDrift 67 = .ok (.getfield 195, 3) := by decide +kernel
theorem dX13_laysDrift_70 : decode cX13_laysDrift 70 = .ok (.if_icmp .ge 77, 3) := by decide +kernel
theorem dX13_laysDrift_73 : decode cX13_laysDrift 73 = .ok (.aload_n 0, 1) := by decide +kernel
theorem dX13_laysDrift_74 : decode cX13_laysDrift 74 = .ok (.iload 9, 2) := by decide +kernel
theorem dX13_laysDrift_76 : decode cX13_laysDrift 76 = .ok (.iconst 2, 1) := by decide +kernel
theorem dX13_laysDrift_77 : decode cX13_laysDrift 77 = .ok (.invokevirtual 198, 3) := by decide +kernel
theorem dX13_laysDrift_80 : decode cX13_laysDrift 80 = .ok (.lload 5, 2) := by decide +kernel
theorem dX13_laysDrift_82 : decode cX13_laysDrift 82 = .ok (.lmul, 1) := by decide +kernel
theorem dX13_laysDrift_83 : decode cX13_laysDrift 83 = .ok (.aload_n 0, 1) := by decide +kernel
theorem dX13_laysDrift_84 : decode cX13_laysDrift 84 = .ok (.aload_n 1, 1) := by decide +kernel
theorem dX13_laysDrift_85 : decode cX13_laysDrift 85 = .ok (.iload_n 2, 1) := by decide +kernel
theorem dX13_laysDrift_86 : decode cX13_laysDrift 86 = .ok (.iload 9, 2) := by decide +kernel
theorem dX13_laysDrift_88 : decode cX13_laysDrift 88 = .ok (.invokevirtual 262, 3) := by decide +kernel
theorem dX13_laysDrift_91 : decode cX13_laysDrift 91 = .ok (.i2l, 1) := by decide +kernel
theorem dX13_laysDrift_92 : decode cX13_laysDrift 92 = .ok (.lload_n 3, 1) := by decide +kernel
theorem dX13_laysDrift_93 : decode cX13_laysDrift 93 = .ok (.lmul, 1) := by decide +kernel
theorem dX13_laysDrift_94 : decode cX13_laysDrift 94 = .ok (.lsub, 1) := by decide +kernel
theorem dX13_laysDrift_95 : decode cX13_laysDrift 95 = .ok (.invokestatic 295, 3) := by decide +kernel
theorem dX13_laysDrift_98 : decode cX13_laysDrift 98 = .ok (.lstore 10, 2) := by decide +kernel
theorem dX13_laysDrift_100 : decode cX13_laysDrift 100 = .ok (.aload_n 0, 1) := by decide +kernel
theorem dX13_laysDrift_101 : decode cX13_laysDrift 101 = .ok (.dup, 1) := by decide +kernel
theorem dX13_laysDrift_102 : decode cX13_laysDrift 102 = .ok (.getfield 342, 3) := by decide +kernel
theorem dX13_laysDrift_105 : decode cX13_laysDrift 105 = .ok (.lload 10, 2) := by decide +kernel
theorem dX13_laysDrift_107 : decode cX13_laysDrift 107 = .ok (.ladd, 1) := by decide +kernel
theorem dX13_laysDrift_108 : decode cX13_laysDrift 108 = .ok (.putfield 342, 3) := by decide +kernel
theorem dX13_laysDrift_111 : decode cX13_laysDrift 111 = .ok (.aload_n 0, 1) := by decide +kernel
theorem dX13_laysDrift_112 : decode cX13_laysDrift 112 = .ok (.lload 10, 2) := by decide +kernel
theorem dX13_laysDrift_114 : decode cX13_laysDrift 114 = .ok (.lload 7, 2) := by decide +kernel
theorem dX13_laysDrift_116 : decode cX13_laysDrift 116 = .ok (.lcmp, 1) := by decide +kernel
theorem dX13_laysDrift_117 : decode cX13_laysDrift 117 = .ok (.ifCond .le 8, 3) := by decide +kernel
theorem dX13_laysDrift_120 : decode cX13_laysDrift 120 = .ok (.iload 9, 2) := by decide +kernel
theorem dX13_laysDrift_122 : decode cX13_laysDrift 122 = .ok (.goto 7, 3) := by decide +kernel
theorem dX13_laysDrift_125 : decode cX13_laysDrift 125 = .ok (.aload_n 0, 1) := by decide +kernel
theorem dX13_laysDrift_126 : decode cX13_laysDrift 126 = .ok (.getfield 348, 3) := by decide +kernel
theorem dX13_laysDrift_129 : decode cX13_laysDrift 129 = .ok (.putfield 348, 3) := by decide +kernel
theorem dX13_laysDrift_132 : decode cX13_laysDrift 132 = .ok (.lload 7, 2) := by decide +kernel
theorem dX13_laysDrift_134 : decode cX13_laysDrift 134 = .ok (.lload 10, 2) := by decide +kernel
theorem dX13_laysDrift_136 : decode cX13_laysDrift 136 = .ok (.invokestatic 351, 3) := by decide +kernel
theorem dX13_laysDrift_139 : decode cX13_laysDrift 139 = .ok (.lstore 7, 2) := by decide +kernel
theorem dX13_laysDrift_141 : decode cX13_laysDrift 141 = .ok (.iinc 9 1, 3) := by decide +kernel
theorem dX13_laysDrift_144 : decode cX13_laysDrift 144 = .ok (.goto (-80), 3) := by decide +kernel
theorem dX13_laysDrift_147 : decode cX13_laysDrift 147 = .ok (.iconst 1, 1) := by decide +kernel
theorem dX13_laysDrift_148 : decode cX13_laysDrift 148 = .ok (.ireturn, 1) := by decide +kernel
theorem dX13_drift_0 : decode cX13_drift 0 = .ok (.iload_n 1, 1) := by decide +kernel
theorem dX13_drift_1 : decode cX13_drift 1 = .ok (.i2l, 1) := by decide +kernel
theorem dX13_drift_2 : decode cX13_drift 2 = .ok (.lconst 0, 1) := by decide +kernel
theorem dX13_drift_3 : decode cX13_drift 3 = .ok (.ldc2_w 291, 3) := by decide +kernel
theorem dX13_drift_6 : decode cX13_drift 6 = .ok (.invokestatic 86, 3) := by decide +kernel
theorem dX13_drift_9 : decode cX13_drift 9 = .ok (.ifCond .eq 15, 3) := by decide +kernel
theorem dX13_drift_12 : decode cX13_drift 12 = .ok (.aload_n 0, 1) := by decide +kernel
theorem dX13_drift_13 : decode cX13_drift 13 = .ok (.aload_n 0, 1) := by decide +kernel
theorem dX13_drift_14 : decode cX13_drift 14 = .ok (.getfield 25, 3) := by decide +kernel
theorem dX13_drift_17 : decode cX13_drift 17 = .ok (.iconst 0, 1) := by decide +kernel
theorem dX13_drift_18 : decode cX13_drift 18 = .ok (.invokevirtual 354, 3) := by decide +kernel
theorem dX13_drift_21 : decode cX13_drift 21 = .ok (.ifCond .ne 7, 3) := by decide +kernel
theorem dX13_drift_24 : decode cX13_drift 24 = .ok (.ldc2_w 274, 3) := by decide +kernel
theorem dX13_drift_27 : decode cX13_drift 27 = .ok (.lreturn, 1) := by decide +kernel
theorem dX13_drift_28 : decode cX13_drift 28 = .ok (.iload_n 1, 1) := by decide +kernel
theorem dX13_drift_29 : decode cX13_drift 29 = .ok (.iconst 2, 1) := by decide +kernel
theorem dX13_drift_30 : decode cX13_drift 30 = .ok (.if_icmp .ne 11, 3) := by decide +kernel
theorem dX13_drift_33 : decode cX13_drift 33 = .ok (.aload_n 0, 1) := by decide +kernel
theorem dX13_drift_34 : decode cX13_drift 34 = .ok (.getfield 348, 3) := by decide +kernel
theorem dX13_drift_37 : decode cX13_drift 37 = .ok (.i2l, 1) := by decide +kernel
theorem dX13_drift_38 : decode cX13_drift 38 = .ok (.goto 15, 3) := by decide +kernel
theorem dX13_drift_41 : decode cX13_drift 41 = .ok (.aload_n 0, 1) := by decide +kernel
theorem dX13_drift_42 : decode cX13_drift 42 = .ok (.getfield 342, 3) := by decide +kernel
theorem dX13_drift_45 : decode cX13_drift 45 = .ok (.aload_n 0, 1) := by decide +kernel
theorem dX13_drift_46 : decode cX13_drift 46 = .ok (.getfield 345, 3) := by decide +kernel
theorem dX13_drift_49 : decode cX13_drift 49 = .ok (.iload_n 1, 1) := by decide +kernel
theorem dX13_drift_50 : decode cX13_drift 50 = .ok (.invokestatic 258, 3) := by decide +kernel
theorem dX13_drift_53 : decode cX13_drift 53 = .ok (.lreturn, 1) := by decide +kernel
theorem dX13_chi_0 : decode cX13_chi 0 = .ok (.aload_n 0, 1) := by decide +kernel
theorem dX13_chi_1 : decode cX13_chi 1 = .ok (.invokevirtual 249, 3) := by decide +kernel
theorem dX13_chi_4 : decode cX13_chi 4 = .ok (.aload_n 0, 1) := by decide +kernel
theorem dX13_chi_5 : decode cX13_chi 5 = .ok (.iconst 0, 1) := by decide +kernel
theorem dX13_chi_6 : decode cX13_chi 6 = .ok (.aload_n 0, 1) := by decide +kernel
theorem dX13_chi_7 : decode cX13_chi 7 = .ok (.getfield 188, 3) := by decide +kernel
theorem dX13_chi_10 : decode cX13_chi 10 = .ok (.iconst 2, 1) := by decide +kernel
theorem dX13_chi_11 : decode cX13_chi 11 = .ok (.invokevirtual 191, 3) := by decide +kernel
theorem dX13_chi_14 : decode cX13_chi 14 = .ok (.lstore_n 1, 1) := by decide +kernel
theorem dX13_chi_15 : decode cX13_chi 15 = .ok (.aload_n 0, 1) := by decide +kernel
theorem dX13_chi_16 : decode cX13_chi 16 = .ok (.getfield 25, 3) := by decide +kernel
theorem dX13_chi_19 : decode cX13_chi 19 = .ok (.iconst 0, 1) := by decide +kernel
theorem dX13_chi_20 : decode cX13_chi 20 = .ok (.invokestatic 184, 3) := by decide +kernel
theorem dX13_chi_23 : decode cX13_chi 23 = .ok (.i2l, 1) := by decide +kernel
theorem dX13_chi_24 : decode cX13_chi 24 = .ok (.lstore_n 3, 1) := by decide +kernel
theorem dX13_chi_25 : decode cX13_chi 25 = .ok (.lload_n 1, 1) := by decide +kernel
theorem dX13_chi_26 : decode cX13_chi 26 = .ok (.lconst 0, 1) := by decide +kernel
theorem dX13_chi_27 : decode cX13_chi 27 = .ok (.lcmp, 1) := by decide +kernel
theorem dX13_chi_28 : decode cX13_chi 28 = .ok (.ifCond .eq 9, 3) := by decide +kernel
theorem dX13_chi_31 : decode cX13_chi 31 = .ok (.lload_n 3, 1) := by decide +kernel
theorem dX13_chi_32 : decode cX13_chi 32 = .ok (.lconst 0, 1) := by decide +kernel
theorem dX13_chi_33 : decode cX13_chi 33 = .ok (.lcmp, 1) := by decide +kernel
theorem dX13_chi_34 : decode cX13_chi 34 = .ok (.ifCond .ne 7, 3) := by decide +kernel
theorem dX13_chi_37 : decode cX13_chi 37 = .ok (.ldc2_w 274, 3) := by decide +kernel
theorem dX13_chi_40 : decode cX13_chi 40 = .ok (.lreturn, 1) := by decide +kernel
theorem dX13_chi_41 : decode cX13_chi 41 = .ok (.dconst 0, 1) := by decide +kernel
theorem dX13_chi_42 : decode cX13_chi 42 = .ok (.dstore 5, 2) := by decide +kernel
theorem dX13_chi_44 : decode cX13_chi 44 = .ok (.iconst 0, 1) := by decide +kernel
theorem dX13_chi_45 : decode cX13_chi 45 = .ok (.istore 7, 2) := by decide +kernel
theorem dX13_chi_47 : decode cX13_chi 47 = .ok (.iload 7, 2) := by decide +kernel
theorem dX13_chi_49 : decode cX13_chi 49 = .ok (.aload_n 0, 1) := by decide +kernel
theorem dX13_chi_50 : decode cX13_chi 50 = .ok (.getfield 195, 3) := by decide +kernel
theorem dX13_chi_53 : decode cX13_chi 53 = .ok (.if_icmp .ge 57, 3) := by decide +kernel
theorem dX13_chi_56 : decode cX13_chi 56 = .ok (.aload_n 0, 1) := by decide +kernel
theorem dX13_chi_57 : decode cX13_chi 57 = .ok (.aload_n 0, 1) := by decide +kernel
theorem dX13_chi_58 : decode cX13_chi 58 = .ok (.getfield 25, 3) := by decide +kernel
theorem dX13_chi_61 : decode cX13_chi 61 = .ok (.iconst 0, 1) := by decide +kernel
theorem dX13_chi_62 : decode cX13_chi 62 = .ok (.iload 7, 2) := by decide +kernel
theorem dX13_chi_64 : decode cX13_chi 64 = .ok (.invokevirtual 262, 3) := by decide +kernel
theorem dX13_chi_67 : decode cX13_chi 67 = .ok (.i2d, 1) := by decide +kernel
theorem dX13_chi_68 : decode cX13_chi 68 = .ok (.dstore 8, 2) := by decide +kernel
theorem dX13_chi_70 : decode cX13_chi 70 = .ok (.aload_n 0, 1) := by decide +kernel
theorem dX13_chi_71 : decode cX13_chi 71 = .ok (.iload 7, 2) := by decide +kernel
theorem dX13_chi_73 : decode cX13_chi 73 = .ok (.iconst 2, 1) := by decide +kernel
theorem dX13_chi_74 : decode cX13_chi 74 = .ok (.invokevirtual 198, 3) := by decide +kernel
theorem dX13_chi_77 : decode cX13_chi 77 = .ok (.lload_n 3, 1) := by decide +kernel
theorem dX13_chi_78 : decode cX13_chi 78 = .ok (.lmul, 1) := by decide +kernel
theorem dX13_chi_79 : decode cX13_chi 79 = .ok (.l2d, 1) := by decide +kernel
theorem dX13_chi_80 : decode cX13_chi 80 = .ok (.lload_n 1, 1) := by decide +kernel
theorem dX13_chi_81 : decode cX13_chi 81 = .ok (.l2d, 1) := by decide +kernel
theorem dX13_chi_82 : decode cX13_chi 82 = .ok (.ddiv, 1) := by decide +kernel
theorem dX13_chi_83 : decode cX13_chi 83 = .ok (.dstore 10, 2) := by decide +kernel
theorem dX13_chi_85 : decode cX13_chi 85 = .ok (.dload 5, 2) := by decide +kernel
theorem dX13_chi_87 : decode cX13_chi 87 = .ok (.dload 8, 2) := by decide +kernel
theorem dX13_chi_89 : decode cX13_chi 89 = .ok (.dload 10, 2) := by decide +kernel
theorem dX13_chi_91 : decode cX13_chi 91 = .ok (.dsub, 1) := by decide +kernel
theorem dX13_chi_92 : decode cX13_chi 92 = .ok (.dload 8, 2) := by decide +kernel
theorem dX13_chi_94 : decode cX13_chi 94 = .ok (.dload 10, 2) := by decide +kernel
theorem dX13_chi_96 : decode cX13_chi 96 = .ok (.dsub, 1) := by decide +kernel
theorem dX13_chi_97 : decode cX13_chi 97 = .ok (.dmul, 1) := by decide +kernel
theorem dX13_chi_98 : decode cX13_chi 98 = .ok (.dload 10, 2) := by decide +kernel
theorem dX13_chi_100 : decode cX13_chi 100 = .ok (.ddiv, 1) := by decide +kernel
theorem dX13_chi_101 : decode cX13_chi 101 = .ok (.dadd, 1) := by decide +kernel
theorem dX13_chi_102 : decode cX13_chi 102 = .ok (.dstore 5, 2) := by decide +kernel
theorem dX13_chi_104 : decode cX13_chi 104 = .ok (.iinc 7 1, 3) := by decide +kernel
theorem dX13_chi_107 : decode cX13_chi 107 = .ok (.goto (-60), 3) := by decide +kernel
theorem dX13_chi_110 : decode cX13_chi 110 = .ok (.dload 5, 2) := by decide +kernel
theorem dX13_chi_112 : decode cX13_chi 112 = .ok (.invokestatic 276, 3) := by decide +kernel
theorem dX13_chi_115 : decode cX13_chi 115 = .ok (.lreturn, 1) := by decide +kernel
theorem dX13_month_0 : decode cX13_month 0 = .ok (.aload_n 0, 1) := by decide +kernel
theorem dX13_month_1 : decode cX13_month 1 = .ok (.getfield 77, 3) := by decide +kernel
theorem dX13_month_4 : decode cX13_month 4 = .ok (.bipush 12, 2) := by decide +kernel
theorem dX13_month_6 : decode cX13_month 6 = .ok (.if_icmp .eq 14, 3) := by decide +kernel
theorem dX13_month_9 : decode cX13_month 9 = .ok (.aload_n 0, 1) := by decide +kernel
theorem dX13_month_10 : decode cX13_month 10 = .ok (.getfield 25, 3) := by decide +kernel
theorem dX13_month_13 : decode cX13_month 13 = .ok (.iconst 0, 1) := by decide +kernel
theorem dX13_month_14 : decode cX13_month 14 = .ok (.invokestatic 184, 3) := by decide +kernel
theorem dX13_month_17 : decode cX13_month 17 = .ok (.ifCond .ne 6, 3) := by decide +kernel
theorem dX13_month_20 : decode cX13_month 20 = .ok (.bipush (-5), 2) := by decide +kernel
theorem dX13_month_22 : decode cX13_month 22 = .ok (.ireturn, 1) := by decide +kernel
theorem dX13_month_23 : decode cX13_month 23 = .ok (.iconst 0, 1) := by decide +kernel
theorem dX13_month_24 : decode cX13_month 24 = .ok (.istore_n 1, 1) := by decide +kernel
theorem dX13_month_25 : decode cX13_month 25 = .ok (.iload_n 1, 1) := by decide +kernel
theorem dX13_month_26 : decode cX13_month 26 = .ok (.sipush 1000, 3) := by decide +kernel
theorem dX13_month_29 : decode cX13_month 29 = .ok (.if_icmp .ge 30, 3) := by decide +kernel
theorem dX13_month_32 : decode cX13_month 32 = .ok (.aload_n 0, 1) := by decide +kernel
theorem dX13_month_33 : decode cX13_month 33 = .ok (.getfield 28, 3) := by decide +kernel
theorem dX13_month_36 : decode cX13_month 36 = .ok (.sipush 1000, 3) := by decide +kernel
theorem dX13_month_39 : decode cX13_month 39 = .ok (.aload_n 0, 1) := by decide +kernel
theorem dX13_month_40 : decode cX13_month 40 = .ok (.getfield 77, 3) := by decide +kernel
theorem dX13_month_43 : decode cX13_month 43 = .ok (.imul, 1) := by decide +kernel
theorem dX13_month_44 : decode cX13_month 44 = .ok (.iload_n 1, 1) := by decide +kernel
theorem dX13_month_45 : decode cX13_month 45 = .ok (.iadd, 1) := by decide +kernel
theorem dX13_month_46 : decode cX13_month 46 = .ok (.aload_n 0, 1) := by decide +kernel
theorem dX13_month_47 : decode cX13_month 47 = .ok (.getfield 25, 3) := by decide +kernel
theorem dX13_month_50 : decode cX13_month 50 = .ok (.iload_n 1, 1) := by decide +kernel
theorem dX13_month_51 : decode cX13_month 51 = .ok (.iaload, 1) := by decide +kernel
theorem dX13_month_52 : decode cX13_month 52 = .ok (.iastore, 1) := by decide +kernel
theorem dX13_month_53 : decode cX13_month 53 = .ok (.iinc 1 1, 3) := by decide +kernel
theorem dX13_month_56 : decode cX13_month 56 = .ok (.goto (-31), 3) := by decide +kernel
theorem dX13_month_59 : decode cX13_month 59 = .ok (.aload_n 0, 1) := by decide +kernel
theorem dX13_month_60 : decode cX13_month 60 = .ok (.dup, 1) := by decide +kernel
theorem dX13_month_61 : decode cX13_month 61 = .ok (.getfield 77, 3) := by decide +kernel
theorem dX13_month_64 : decode cX13_month 64 = .ok (.iconst 1, 1) := by decide +kernel
theorem dX13_month_65 : decode cX13_month 65 = .ok (.iadd, 1) := by decide +kernel
theorem dX13_month_66 : decode cX13_month 66 = .ok (.putfield 77, 3) := by decide +kernel
theorem dX13_month_69 : decode cX13_month 69 = .ok (.aload_n 0, 1) := by decide +kernel
theorem dX13_month_70 : decode cX13_month 70 = .ok (.getfield 77, 3) := by decide +kernel
theorem dX13_month_73 : decode cX13_month 73 = .ok (.iconst 1, 1) := by decide +kernel
theorem dX13_month_74 : decode cX13_month 74 = .ok (.isub, 1) := by decide +kernel
theorem dX13_month_75 : decode cX13_month 75 = .ok (.ireturn, 1) := by decide +kernel
theorem dX13_isMonth_0 : decode cX13_isMonth 0 = .ok (.iload_n 1, 1) := by decide +kernel
theorem dX13_isMonth_1 : decode cX13_isMonth 1 = .ok (.i2l, 1) := by decide +kernel
theorem dX13_isMonth_2 : decode cX13_isMonth 2 = .ok (.lconst 0, 1) := by decide +kernel
theorem dX13_isMonth_3 : decode cX13_isMonth 3 = .ok (.aload_n 0, 1) := by decide +kernel
theorem dX13_isMonth_4 : decode cX13_isMonth 4 = .ok (.getfield 77, 3) := by decide +kernel
theorem dX13_isMonth_7 : decode cX13_isMonth 7 = .ok (.iconst 1, 1) := by decide +kernel
theorem dX13_isMonth_8 : decode cX13_isMonth 8 = .ok (.isub, 1) := by decide +kernel
theorem dX13_isMonth_9 : decode cX13_isMonth 9 = .ok (.i2l, 1) := by decide +kernel
theorem dX13_isMonth_10 : decode cX13_isMonth 10 = .ok (.invokestatic 86, 3) := by decide +kernel
theorem dX13_isMonth_13 : decode cX13_isMonth 13 = .ok (.ireturn, 1) := by decide +kernel
theorem dX13_off_0 : decode cX13_off 0 = .ok (.aload_n 0, 1) := by decide +kernel
theorem dX13_off_1 : decode cX13_off 1 = .ok (.iload_n 1, 1) := by decide +kernel
theorem dX13_off_2 : decode cX13_off 2 = .ok (.invokevirtual 358, 3) := by decide +kernel
theorem dX13_off_5 : decode cX13_off 5 = .ok (.ifCond .eq 29, 3) := by decide +kernel
theorem dX13_off_8 : decode cX13_off 8 = .ok (.iload_n 2, 1) := by decide +kernel
theorem dX13_off_9 : decode cX13_off 9 = .ok (.i2l, 1) := by decide +kernel
theorem dX13_off_10 : decode cX13_off 10 = .ok (.lconst 0, 1) := by decide +kernel
theorem dX13_off_11 : decode cX13_off 11 = .ok (.lconst 1, 1) := by decide +kernel
theorem dX13_off_12 : decode cX13_off 12 = .ok (.invokestatic 86, 3) := by decide +kernel
theorem dX13_off_15 : decode cX13_off 15 = .ok (.ifCond .eq 19, 3) := by decide +kernel
theorem dX13_off_18 : decode cX13_off 18 = .ok (.aload_n 0, 1) := by decide +kernel
theorem dX13_off_19 : decode cX13_off 19 = .ok (.aload_n 0, 1) := by decide +kernel
theorem dX13_off_20 : decode cX13_off 20 = .ok (.getfield 28, 3) := by decide +kernel
theorem dX13_off_23 : decode cX13_off 23 = .ok (.sipush 1000, 3) := by decide +kernel
theorem dX13_off_26 : decode cX13_off 26 = .ok (.iload_n 1, 1) := by decide +kernel
theorem dX13_off_27 : decode cX13_off 27 = .ok (.imul, 1) := by decide +kernel
theorem dX13_off_28 : decode cX13_off 28 = .ok (.invokevirtual 354, 3) := by decide +kernel
theorem dX13_off_31 : decode cX13_off 31 = .ok (.ifCond .ne 7, 3) := by decide +kernel
theorem dX13_off_34 : decode cX13_off 34 = .ok (.ldc2_w 274, 3) := by decide +kernel
theorem dX13_off_37 : decode cX13_off 37 = .ok (.lreturn, 1) := by decide +kernel
theorem dX13_off_38 : decode cX13_off 38 = .ok (.aload_n 0, 1) := by decide +kernel
theorem dX13_off_39 : decode cX13_off 39 = .ok (.getfield 342, 3) := by decide +kernel
theorem dX13_off_42 : decode cX13_off 42 = .ok (.aload_n 0, 1) := by decide +kernel
theorem dX13_off_43 : decode cX13_off 43 = .ok (.getfield 345, 3) := by decide +kernel
theorem dX13_off_46 : decode cX13_off 46 = .ok (.iload_n 2, 1) := by decide +kernel
theorem dX13_off_47 : decode cX13_off 47 = .ok (.invokestatic 258, 3) := by decide +kernel
theorem dX13_off_50 : decode cX13_off 50 = .ok (.lreturn, 1) := by decide +kernel
theorem dX13_share_0 : decode cX13_share 0 = .ok (.aload_n 0, 1) := by decide +kernel
theorem dX13_share_1 : decode cX13_share 1 = .ok (.invokevirtual 249, 3) := by decide +kernel
theorem dX13_share_4 : decode cX13_share 4 = .ok (.aload_n 0, 1) := by decide +kernel
theorem dX13_share_5 : decode cX13_share 5 = .ok (.iload_n 1, 1) := by decide +kernel
theorem dX13_share_6 : decode cX13_share 6 = .ok (.invokevirtual 358, 3) := by decide +kernel
theorem dX13_share_9 : decode cX13_share 9 = .ok (.ifCond .eq 36, 3) := by decide +kernel
theorem dX13_share_12 : decode cX13_share 12 = .ok (.iload_n 2, 1) := by decide +kernel
theorem dX13_share_13 : decode cX13_share 13 = .ok (.i2l, 1) := by decide +kernel
theorem dX13_share_14 : decode cX13_share 14 = .ok (.lconst 0, 1) := by decide +kernel
theorem dX13_share_15 : decode cX13_share 15 = .ok (.aload_n 0, 1) := by decide +kernel
theorem dX13_share_16 : decode cX13_share 16 = .ok (.getfield 195, 3) := by decide +kernel
theorem dX13_share_19 : decode cX13_share 19 = .ok (.iconst 1, 1) := by decide +kernel
theorem dX13_share_20 : decode cX13_share 20 = .ok (.isub, 1) := by decide +kernel
theorem dX13_share_21 : decode cX13_share 21 = .ok (.i2l, 1) := by decide +kernel
theorem dX13_share_22 : decode cX13_share 22 = .ok (.invokestatic 86, 3) := by decide +kernel
theorem dX13_share_25 : decode cX13_share 25 = .ok (.ifCond .eq 20, 3) := by decide +kernel
theorem dX13_share_28 : decode cX13_share 28 = .ok (.aload_n 0, 1) := by decide +kernel
theorem dX13_share_29 : decode cX13_share 29 = .ok (.aload_n 0, 1) := by decide +kernel
theorem dX13_share_30 : decode cX13_share 30 = .ok (.getfield 28, 3) := by decide +kernel
theorem dX13_share_33 : decode cX13_share 33 = .ok (.sipush 1000, 3) := by decide +kernel
theorem dX13_share_36 : decode cX13_share 36 = .ok (.iload_n 1, 1) := by decide +kernel
theorem dX13_share_37 : decode cX13_share 37 = .ok (.imul, 1) := by decide +kernel
theorem dX13_share_38 : decode cX13_share 38 = .ok (.iload_n 2, 1) := by decide +kernel
theorem dX13_share_39 : decode cX13_share 39 = .ok (.invokevirtual 262, 3) := by decide +kernel
theorem dX13_share_42 : decode cX13_share 42 = .ok (.goto 5, 3) := by decide +kernel
theorem dX13_share_45 : decode cX13_share 45 = .ok (.bipush (-2), 2) := by decide +kernel
theorem dX13_share_47 : decode cX13_share 47 = .ok (.ireturn, 1) := by decide +kernel
theorem dX13_alarm_0 : decode cX13_alarm 0 = .ok (.iload_n 1, 1) := by decide +kernel
theorem dX13_alarm_1 : decode cX13_alarm 1 = .ok (.i2l, 1) := by decide +kernel
theorem dX13_alarm_2 : decode cX13_alarm 2 = .ok (.lconst 0, 1) := by decide +kernel
theorem dX13_alarm_3 : decode cX13_alarm 3 = .ok (.ldc2_w 361, 3) := by decide +kernel
theorem dX13_alarm_6 : decode cX13_alarm 6 = .ok (.invokestatic 86, 3) := by decide +kernel
theorem dX13_alarm_9 : decode cX13_alarm 9 = .ok (.ifCond .ne 6, 3) := by decide +kernel
theorem dX13_alarm_12 : decode cX13_alarm 12 = .ok (.bipush (-2), 2) := by decide +kernel
theorem dX13_alarm_14 : decode cX13_alarm 14 = .ok (.ireturn, 1) := by decide +kernel
theorem dX13_alarm_15 : decode cX13_alarm 15 = .ok (.iconst 0, 1) := by decide +kernel
theorem dX13_alarm_16 : decode cX13_alarm 16 = .ok (.istore_n 2, 1) := by decide +kernel
theorem dX13_alarm_17 : decode cX13_alarm 17 = .ok (.iload_n 2, 1) := by decide +kernel
theorem dX13_alarm_18 : decode cX13_alarm 18 = .ok (.aload_n 0, 1) := by decide +kernel
theorem dX13_alarm_19 : decode cX13_alarm 19 = .ok (.getfield 77, 3) := by decide +kernel
theorem dX13_alarm_22 : decode cX13_alarm 22 = .ok (.if_icmp .ge 46, 3) := by decide +kernel
theorem dX13_alarm_25 : decode cX13_alarm 25 = .ok (.aload_n 0, 1) := by decide +kernel
theorem dX13_alarm_26 : decode cX13_alarm 26 = .ok (.aload_n 0, 1) := by decide +kernel
theorem dX13_alarm_27 : decode cX13_alarm 27 = .ok (.getfield 28, 3) := by decide +kernel
theorem dX13_alarm_30 : decode cX13_alarm 30 = .ok (.sipush 1000, 3) := by decide +kernel
theorem dX13_alarm_33 : decode cX13_alarm 33 = .ok (.iload_n 2, 1) := by decide +kernel
theorem dX13_alarm_34 : decode cX13_alarm 34 = .ok (.imul, 1) := by decide +kernel
theorem dX13_alarm_35 : decode cX13_alarm 35 = .ok (.invokevirtual 354, 3) := by decide +kernel
theorem dX13_alarm_38 : decode cX13_alarm 38 = .ok (.ifCond .eq 24, 3) := by decide +kernel
theorem dX13_alarm_41 : decode cX13_alarm 41 = .ok (.aload_n 0, 1) := by decide +kernel
theorem dX13_alarm_42 : decode cX13_alarm 42 = .ok (.getfield 342, 3) := by decide +kernel
theorem dX13_alarm_45 : decode cX13_alarm 45 = .ok (.ldc2_w 307, 3) := by decide +kernel
theorem dX13_alarm_48 : decode cX13_alarm 48 = .ok (.lmul, 1) := by decide +kernel
theorem dX13_alarm_49 : decode cX13_alarm 49 = .ok (.iload_n 1, 1) := by decide +kernel
theorem dX13_alarm_50 : decode cX13_alarm 50 = .ok (.i2l, 1) := by decide +kernel
theorem dX13_alarm_51 : decode cX13_alarm 51 = .ok (.aload_n 0, 1) := by decide +kernel
theorem dX13_alarm_52 : decode cX13_alarm 52 = .ok (.getfield 345, 3) := by decide +kernel
theorem dX13_alarm_55 : decode cX13_alarm 55 = .ok (.lmul, 1) := by decide +kernel
theorem dX13_alarm_56 : decode cX13_alarm 56 = .ok (.lcmp, 1) := by decide +kernel
theorem dX13_alarm_57 : decode cX13_alarm 57 = .ok (.ifCond .le 5, 3) := by decide +kernel
theorem dX13_alarm_60 : decode cX13_alarm 60 = .ok (.iload_n 2, 1) := by decide +kernel
theorem dX13_alarm_61 : decode cX13_alarm 61 = .ok (.ireturn, 1) := by decide +kernel
theorem dX13_alarm_62 : decode cX13_alarm 62 = .ok (.iinc 2 1, 3) := by decide +kernel
theorem dX13_alarm_65 : decode cX13_alarm 65 = .ok (.goto (-48), 3) := by decide +kernel
theorem dX13_alarm_68 : decode cX13_alarm 68 = .ok (.iconst (-1), 1) := by decide +kernel
theorem dX13_alarm_69 : decode cX13_alarm 69 = .ok (.ireturn, 1) := by decide +kernel
theorem dX13_rises_0 : decode cX13_rises 0 = .ok (.aload_n 0, 1) := by decide +kernel
theorem dX13_rises_1 : decode cX13_rises 1 = .ok (.invokevirtual 249, 3) := by decide +kernel
theorem dX13_rises_4 : decode cX13_rises 4 = .ok (.iload_n 1, 1) := by decide +kernel
theorem dX13_rises_5 : decode cX13_rises 5 = .ok (.i2l, 1) := by decide +kernel
theorem dX13_rises_6 : decode cX13_rises 6 = .ok (.lconst 0, 1) := by decide +kernel
theorem dX13_rises_7 : decode cX13_rises 7 = .ok (.aload_n 0, 1) := by decide +kernel
theorem dX13_rises_8 : decode cX13_rises 8 = .ok (.getfield 195, 3) := by decide +kernel
theorem dX13_rises_11 : decode cX13_rises 11 = .ok (.iconst 1, 1) := by decide +kernel
theorem dX13_rises_12 : decode cX13_rises 12 = .ok (.isub, 1) := by decide +kernel
theorem dX13_rises_13 : decode cX13_rises 13 = .ok (.i2l, 1) := by decide +kernel
theorem dX13_rises_14 : decode cX13_rises 14 = .ok (.invokestatic 86, 3) := by decide +kernel
theorem dX13_rises_17 : decode cX13_rises 17 = .ok (.ifCond .ne 6, 3) := by decide +kernel
theorem dX13_rises_20 : decode cX13_rises 20 = .ok (.bipush (-2), 2) := by decide +kernel
theorem dX13_rises_22 : decode cX13_rises 22 = .ok (.ireturn, 1) := by decide +kernel
theorem dX13_rises_23 : decode cX13_rises 23 = .ok (.iconst 0, 1) := by decide +kernel
theorem dX13_rises_24 : decode cX13_rises 24 = .ok (.istore_n 2, 1) := by decide +kernel
theorem dX13_rises_25 : decode cX13_rises 25 = .ok (.iconst 0, 1) := by decide +kernel
theorem dX13_rises_26 : decode cX13_rises 26 = .ok (.istore_n 3, 1) := by decide +kernel
theorem dX13_rises_27 : decode cX13_rises 27 = .ok (.iconst 1, 1) := by decide +kernel
theorem dX13_rises_28 : decode cX13_rises 28 = .ok (.istore 4, 2) := by decide +kernel
theorem dX13_rises_30 : decode cX13_rises 30 = .ok (.iload 4, 2) := by decide +kernel
theorem dX13_rises_32 : decode cX13_rises 32 = .ok (.aload_n 0, 1) := by decide +kernel
theorem dX13_rises_33 : decode cX13_rises 33 = .ok (.getfield 77, 3) := by decide +kernel
theorem dX13_rises_36 : decode cX13_rises 36 = .ok (.if_icmp .ge 101, 3) := by decide +kernel
theorem dX13_rises_39 : decode cX13_rises 39 = .ok (.aload_n 0, 1) := by decide +kernel
theorem dX13_rises_40 : decode cX13_rises 40 = .ok (.aload_n 0, 1) := by decide +kernel
theorem dX13_rises_41 : decode cX13_rises 41 = .ok (.getfield 28, 3) := by decide +kernel
theorem dX13_rises_44 : decode cX13_rises 44 = .ok (.sipush 1000, 3) := by decide +kernel
theorem dX13_rises_47 : decode cX13_rises 47 = .ok (.iload 4, 2) := by decide +kernel
theorem dX13_rises_49 : decode cX13_rises 49 = .ok (.imul, 1) := by decide +kernel
theorem dX13_rises_50 : decode cX13_rises 50 = .ok (.iload_n 1, 1) := by decide +kernel
theorem dX13_rises_51 : decode cX13_rises 51 = .ok (.invokevirtual 262, 3) := by decide +kernel
theorem dX13_rises_54 : decode cX13_rises 54 = .ok (.i2l, 1) := by decide +kernel
theorem dX13_rises_55 : decode cX13_rises 55 = .ok (.aload_n 0, 1) := by decide +kernel
theorem dX13_rises_56 : decode cX13_rises 56 = .ok (.getfield 28, 3) := by decide +kernel
theorem dX13_rises_59 : decode cX13_rises 59 = .ok (.sipush 1000, 3) := by decide +kernel
theorem dX13_rises_62 : decode cX13_rises 62 = .ok (.iload 4, 2) := by decide +kernel
theorem dX13_rises_64 : decode cX13_rises 64 = .ok (.iconst 1, 1) := by decide +kernel
theorem dX13_rises_65 : decode cX13_rises 65 = .ok (.isub, 1) := by decide +kernel
theorem dX13_rises_66 : decode cX13_rises 66 = .ok (.imul, 1) := by decide +kernel
theorem dX13_rises_67 : decode cX13_rises 67 = .ok (.invokestatic 184, 3) := by decide +kernel
theorem dX13_rises_70 : decode cX13_rises 70 = .ok (.i2l, 1) := by decide +kernel
theorem dX13_rises_71 : decode cX13_rises 71 = .ok (.lmul, 1) := by decide +kernel
theorem dX13_rises_72 : decode cX13_rises 72 = .ok (.lstore 5, 2) := by decide +kernel
theorem dX13_rises_74 : decode cX13_rises 74 = .ok (.aload_n 0, 1) := by decide +kernel
theorem dX13_rises_75 : decode cX13_rises 75 = .ok (.aload_n 0, 1) := by decide +kernel
theorem dX13_rises_76 : decode cX13_rises 76 = .ok (.getfield 28, 3) := by decide +kernel
theorem dX13_rises_79 : decode cX13_rises 79 = .ok (.sipush 1000, 3) := by decide +kernel
theorem dX13_rises_82 : decode cX13_rises 82 = .ok (.iload 4, 2) := by decide +kernel
theorem dX13_rises_84 : decode cX13_rises 84 = .ok (.iconst 1, 1) := by decide +kernel
theorem dX13_rises_85 : decode cX13_rises 85 = .ok (.isub, 1) := by decide +kernel
theorem dX13_rises_86 : decode cX13_rises 86 = .ok (.imul, 1) := by decide +kernel
theorem dX13_rises_87 : decode cX13_rises 87 = .ok (.iload_n 1, 1) := by decide +kernel
theorem dX13_rises_88 : decode cX13_rises 88 = .ok (.invokevirtual 262, 3) := by decide +kernel
theorem dX13_rises_91 : decode cX13_rises 91 = .ok (.i2l, 1) := by decide +kernel
theorem dX13_rises_92 : decode cX13_rises 92 = .ok (.aload_n 0, 1) := by decide +kernel
theorem dX13_rises_93 : decode cX13_rises 93 = .ok (.getfield 28, 3) := by decide +kernel
theorem dX13_rises_96 : decode cX13_rises 96 = .ok (.sipush 1000, 3) := by decide +kernel
theorem dX13_rises_99 : decode cX13_rises 99 = .ok (.iload 4, 2) := by decide +kernel
theorem dX13_rises_101 : decode cX13_rises 101 = .ok (.imul, 1) := by decide +kernel
theorem dX13_rises_102 : decode cX13_rises 102 = .ok (.invokestatic 184, 3) := by decide +kernel
theorem dX13_rises_105 : decode cX13_rises 105 = .ok (.i2l, 1) := by decide +kernel
theorem dX13_rises_106 : decode cX13_rises 106 = .ok (.lmul, 1) := by decide +kernel
theorem dX13_rises_107 : decode cX13_rises 107 = .ok (.lstore 7, 2) := by decide +kernel
theorem dX13_rises_109 : decode cX13_rises 109 = .ok (.lload 5, 2) := by decide +kernel
theorem dX13_rises_111 : decode cX13_rises 111 = .ok (.lload 7, 2) := by decide +kernel
theorem dX13_rises_113 : decode cX13_rises 113 = .ok (.lcmp, 1) := by decide +kernel
theorem dX13_rises_114 : decode cX13_rises 114 = .ok (.ifCond .le 9, 3) := by decide +kernel
theorem dX13_rises_117 : decode cX13_rises 117 = .ok (.iload_n 2, 1) := by decide +kernel
theorem dX13_rises_118 : decode cX13_rises 118 = .ok (.iconst 1, 1) := by decide +kernel
theorem dX13_rises_119 : decode cX13_rises 119 = .ok (.iadd, 1) := by decide +kernel
theorem dX13_rises_120 : decode cX13_rises 120 = .ok (.goto 4, 3) := by decide +kernel
theorem dX13_rises_123 : decode cX13_rises 123 = .ok (.iconst 0, 1) := by decide +kernel
theorem dX13_rises_124 : decode cX13_rises 124 = .ok (.istore_n 2, 1) := by decide +kernel
theorem dX13_rises_125 : decode cX13_rises 125 = .ok (.iload_n 3, 1) := by decide +kernel
theorem dX13_rises_126 : decode cX13_rises 126 = .ok (.iload_n 2, 1) := by decide +kernel
theorem dX13_rises_127 : decode cX13_rises 127 = .ok (.invokestatic 363, 3) := by decide +kernel
theorem dX13_rises_130 : decode cX13_rises 130 = .ok (.istore_n 3, 1) := by decide +kernel
theorem dX13_rises_131 : decode cX13_rises 131 = .ok (.iinc 4 1, 3) := by decide +kernel
theorem dX13_rises_134 : decode cX13_rises 134 = .ok (.goto (-104), 3) := by decide +kernel
theorem dX13_rises_137 : decode cX13_rises 137 = .ok (.iload_n 3, 1) := by decide +kernel
theorem dX13_rises_138 : decode cX13_rises 138 = .ok (.ireturn, 1) := by decide +kernel
theorem dX13_mean_0 : decode cX13_mean 0 = .ok (.aload_n 0, 1) := by decide +kernel
theorem dX13_mean_1 : decode cX13_mean 1 = .ok (.invokevirtual 233, 3) := by decide +kernel
theorem dX13_mean_4 : decode cX13_mean 4 = .ok (.lconst 0, 1) := by decide +kernel
theorem dX13_mean_5 : decode cX13_mean 5 = .ok (.lstore_n 2, 1) := by decide +kernel
theorem dX13_mean_6 : decode cX13_mean 6 = .ok (.lconst 0, 1) := by decide +kernel
theorem dX13_mean_7 : decode cX13_mean 7 = .ok (.lstore 4, 2) := by decide +kernel
theorem dX13_mean_9 : decode cX13_mean 9 = .ok (.iconst 0, 1) := by decide +kernel
theorem dX13_mean_10 : decode cX13_mean 10 = .ok (.istore 6, 2) := by decide +kernel
theorem dX13_mean_12 : decode cX13_mean 12 = .ok (.iload 6, 2) := by decide +kernel
theorem dX13_mean_14 : decode cX13_mean 14 = .ok (.sipush 1000, 3) := by decide +kernel
theorem dX13_mean_17 : decode cX13_mean 17 = .ok (.if_icmp .ge 111, 3) := by decide +kernel
theorem dX13_mean_20 : decode cX13_mean 20 = .ok (.iload_n 1, 1) := by decide +kernel
theorem dX13_mean_21 : decode cX13_mean 21 = .ok (.ifCond .ne 16, 3) := by decide +kernel
theorem dX13_mean_24 : decode cX13_mean 24 = .ok (.aload_n 0, 1) := by decide +kernel
theorem dX13_mean_25 : decode cX13_mean 25 = .ok (.getfield 15, 3) := by decide +kernel
theorem dX13_mean_28 : decode cX13_mean 28 = .ok (.iconst 0, 1) := by decide +kernel
theorem dX13_mean_29 : decode cX13_mean 29 = .ok (.iload 6, 2) := by decide +kernel
theorem dX13_mean_31 : decode cX13_mean 31 = .ok (.iadd, 1) := by decide +kernel
theorem dX13_mean_32 : decode cX13_mean 32 = .ok (.iaload, 1) := by decide +kernel
theorem dX13_mean_33 : decode cX13_mean 33 = .ok (.i2l, 1) := by decide +kernel
theorem dX13_mean_34 : decode cX13_mean 34 = .ok (.goto 70, 3) := by decide +kernel
theorem dX13_mean_37 : decode cX13_mean 37 = .ok (.iload_n 1, 1) := by decide +kernel
theorem dX13_mean_38 : decode cX13_mean 38 = .ok (.iconst 1, 1) := by decide +kernel
theorem dX13_mean_39 : decode cX13_mean 39 = .ok (.if_icmp .ne 18, 3) := by decide +kernel
theorem dX13_mean_42 : decode cX13_mean 42 = .ok (.aload_n 0, 1) := by decide +kernel
theorem dX13_mean_43 : decode cX13_mean 43 = .ok (.getfield 15, 3) := by decide +kernel
theorem dX13_mean_46 : decode cX13_mean 46 = .ok (.sipush 1000, 3) := by decide +kernel
theorem dX13_mean_49 : decode cX13_mean 49 = .ok (.iload 6, 2) := by decide +kernel
theorem dX13_mean_51 : decode cX13_mean 51 = .ok (.iadd, 1) := by decide +kernel
theorem dX13_mean_52 : decode cX13_mean 52 = .ok (.iaload, 1) := by decide +kernel
theorem dX13_mean_53 : decode cX13_mean 53 = .ok (.i2l, 1) := by decide +kernel
theorem dX13_mean_54 : decode cX13_mean 54 = .ok (.goto 50, 3) := by decide +kernel
theorem dX13_mean_57 : decode cX13_mean 57 = .ok (.iload_n 1, 1) := by decide +kernel
theorem dX13_mean_58 : decode cX13_mean 58 = .ok (.iconst 2, 1) := by decide +kernel
theorem dX13_mean_59 : decode cX13_mean 59 = .ok (.if_icmp .ne 28, 3) := by decide +kernel
theorem dX13_mean_62 : decode cX13_mean 62 = .ok (.aload_n 0, 1) := by decide +kernel
theorem dX13_mean_63 : decode cX13_mean 63 = .ok (.getfield 15, 3) := by decide +kernel
theorem dX13_mean_66 : decode cX13_mean 66 = .ok (.iconst 0, 1) := by decide +kernel
theorem dX13_mean_67 : decode cX13_mean 67 = .ok (.iload 6, 2) := by decide +kernel
theorem dX13_mean_69 : decode cX13_mean 69 = .ok (.iadd, 1) := by decide +kernel
theorem dX13_mean_70 : decode cX13_mean 70 = .ok (.iaload, 1) := by decide +kernel
theorem dX13_mean_71 : decode cX13_mean 71 = .ok (.aload_n 0, 1) := by decide +kernel
theorem dX13_mean_72 : decode cX13_mean 72 = .ok (.getfield 15, 3) := by decide +kernel
theorem dX13_mean_75 : decode cX13_mean 75 = .ok (.sipush 1000, 3) := by decide +kernel
theorem dX13_mean_78 : decode cX13_mean 78 = .ok (.iload 6, 2) := by decide +kernel
theorem dX13_mean_80 : decode cX13_mean 80 = .ok (.iadd, 1) := by decide +kernel
theorem dX13_mean_81 : decode cX13_mean 81 = .ok (.iaload, 1) := by decide +kernel
theorem dX13_mean_82 : decode cX13_mean 82 = .ok (.iadd, 1) := by decide +kernel
theorem dX13_mean_83 : decode cX13_mean 83 = .ok (.i2l, 1) := by decide +kernel
theorem dX13_mean_84 : decode cX13_mean 84 = .ok (.goto 20, 3) := by decide +kernel
theorem dX13_mean_87 : decode cX13_mean 87 = .ok (.iload_n 1, 1) := by decide +kernel
theorem dX13_mean_88 : decode cX13_mean 88 = .ok (.iconst 3, 1) := by decide +kernel
theorem dX13_mean_89 : decode cX13_mean 89 = .ok (.if_icmp .ne 14, 3) := by decide +kernel
theorem dX13_mean_92 : decode cX13_mean 92 = .ok (.aload_n 0, 1) := by decide +kernel
theorem dX13_mean_93 : decode cX13_mean 93 = .ok (.getfield 25, 3) := by decide +kernel
theorem dX13_mean_96 : decode cX13_mean 96 = .ok (.iload 6, 2) := by decide +kernel
theorem dX13_mean_98 : decode cX13_mean 98 = .ok (.iaload, 1) := by decide +kernel
theorem dX13_mean_99 : decode cX13_mean 99 = .ok (.i2l, 1) := by decide +kernel
theorem dX13_mean_100 : decode cX13_mean 100 = .ok (.goto 4, 3) := by decide +kernel
theorem dX13_mean_103 : decode cX13_mean 103 = .ok (.lconst 0, 1) := by decide +kernel
theorem dX13_mean_104 : decode cX13_mean 104 = .ok (.lstore 7, 2) := by decide +kernel
theorem dX13_mean_106 : decode cX13_mean 106 = .ok (.lload_n 2, 1) := by decide +kernel
theorem dX13_mean_107 : decode cX13_mean 107 = .ok (.iload 6, 2) := by decide +kernel
theorem dX13_mean_109 : decode cX13_mean 109 = .ok (.i2l, 1) := by decide +kernel
theorem dX13_mean_110 : decode cX13_mean 110 = .ok (.lload 7, 2) := by decide +kernel
theorem dX13_mean_112 : decode cX13_mean 112 = .ok (.lmul, 1) := by decide +kernel
theorem dX13_mean_113 : decode cX13_mean 113 = .ok (.ladd, 1) := by decide +kernel
theorem dX13_mean_114 : decode cX13_mean 114 = .ok (.lstore_n 2, 1) := by decide +kernel
theorem dX13_mean_115 : decode cX13_mean 115 = .ok (.lload 4, 2) := by decide +kernel
theorem dX13_mean_117 : decode cX13_mean 117 = .ok (.lload 7, 2) := by decide +kernel
theorem dX13_mean_119 : decode cX13_mean 119 = .ok (.ladd, 1) := by decide +kernel
theorem dX13_mean_120 : decode cX13_mean 120 = .ok (.lstore 4, 2) := by decide +kernel
theorem dX13_mean_122 : decode cX13_mean 122 = .ok (.iinc 6 1, 3) := by decide +kernel
theorem dX13_mean_125 : decode cX13_mean 125 = .ok (.goto (-113), 3) := by decide +kernel
theorem dX13_mean_128 : decode cX13_mean 128 = .ok (.lload 4, 2) := by decide +kernel
theorem dX13_mean_130 : decode cX13_mean 130 = .ok (.lconst 0, 1) := by decide +kernel
theorem dX13_mean_131 : decode cX13_mean 131 = .ok (.lcmp, 1) := by decide +kernel
theorem dX13_mean_132 : decode cX13_mean 132 = .ok (.ifCond .ne 9, 3) := by decide +kernel
theorem dX13_mean_135 : decode cX13_mean 135 = .ok (.ldc2_w 274, 3) := by decide +kernel
theorem dX13_mean_138 : decode cX13_mean 138 = .ok (.goto 12, 3) := by decide +kernel
theorem dX13_mean_141 : decode cX13_mean 141 = .ok (.lload_n 2, 1) := by decide +kernel
theorem dX13_mean_142 : decode cX13_mean 142 = .ok (.l2d, 1) := by decide +kernel
theorem dX13_mean_143 : decode cX13_mean 143 = .ok (.lload 4, 2) := by decide +kernel
theorem dX13_mean_145 : decode cX13_mean 145 = .ok (.l2d, 1) := by decide +kernel
theorem dX13_mean_146 : decode cX13_mean 146 = .ok (.ddiv, 1) := by decide +kernel
theorem dX13_mean_147 : decode cX13_mean 147 = .ok (.invokestatic 276, 3) := by decide +kernel
theorem dX13_mean_150 : decode cX13_mean 150 = .ok (.lreturn, 1) := by decide +kernel
theorem dX13_median_0 : decode cX13_median 0 = .ok (.aload_n 0, 1) := by decide +kernel
theorem dX13_median_1 : decode cX13_median 1 = .ok (.invokevirtual 233, 3) := by decide +kernel
theorem dX13_median_4 : decode cX13_median 4 = .ok (.aload_n 0, 1) := by decide +kernel
theorem dX13_median_5 : decode cX13_median 5 = .ok (.iconst 0, 1) := by decide +kernel
theorem dX13_median_6 : decode cX13_median 6 = .ok (.aload_n 0, 1) := by decide +kernel
theorem dX13_median_7 : decode cX13_median 7 = .ok (.getfield 188, 3) := by decide +kernel
theorem dX13_median_10 : decode cX13_median 10 = .ok (.iconst 2, 1) := by decide +kernel
theorem dX13_median_11 : decode cX13_median 11 = .ok (.invokevirtual 191, 3) := by decide +kernel
theorem dX13_median_14 : decode cX13_median 14 = .ok (.ldc2_w 291, 3) := by decide +kernel
theorem dX13_median_17 : decode cX13_median 17 = .ok (.ldiv, 1) := by decide +kernel
theorem dX13_median_18 : decode cX13_median 18 = .ok (.lstore_n 1, 1) := by decide +kernel
theorem dX13_median_19 : decode cX13_median 19 = .ok (.iconst 0, 1) := by decide +kernel
theorem dX13_median_20 : decode cX13_median 20 = .ok (.istore_n 3, 1) := by decide +kernel
theorem dX13_median_21 : decode cX13_median 21 = .ok (.iload_n 3, 1) := by decide +kernel
theorem dX13_median_22 : decode cX13_median 22 = .ok (.aload_n 0, 1) := by decide +kernel
theorem dX13_median_23 : decode cX13_median 23 = .ok (.getfield 188, 3) := by decide +kernel
theorem dX13_median_26 : decode cX13_median 26 = .ok (.if_icmp .ge 30, 3) := by decide +kernel
theorem dX13_median_29 : decode cX13_median 29 = .ok (.aload_n 0, 1) := by decide +kernel
theorem dX13_median_30 : decode cX13_median 30 = .ok (.iconst 0, 1) := by decide +kernel
theorem dX13_median_31 : decode cX13_median 31 = .ok (.iload_n 3, 1) := by decide +kernel
theorem dX13_median_32 : decode cX13_median 32 = .ok (.iconst 1, 1) := by decide +kernel
theorem dX13_median_33 : decode cX13_median 33 = .ok (.iadd, 1) := by decide +kernel
theorem dX13_median_34 : decode cX13_median 34 = .ok (.iconst 2, 1) := by decide +kernel
theorem dX13_median_35 : decode cX13_median 35 = .ok (.invokevirtual 191, 3) := by decide +kernel
theorem dX13_median_38 : decode cX13_median 38 = .ok (.lload_n 1, 1) := by decide +kernel
theorem dX13_median_39 : decode cX13_median 39 = .ok (.lcmp, 1) := by decide +kernel
theorem dX13_median_40 : decode cX13_median 40 = .ok (.ifCond .le 10, 3) := by decide +kernel
theorem dX13_median_43 : decode cX13_median 43 = .ok (.aload_n 0, 1) := by decide +kernel
theorem dX13_median_44 : decode cX13_median 44 = .ok (.getfield 48, 3) := by decide +kernel
theorem dX13_median_47 : decode cX13_median 47 = .ok (.iload_n 3, 1) := by decide +kernel
theorem dX13_median_48 : decode cX13_median 48 = .ok (.iaload, 1) := by decide +kernel
theorem dX13_median_49 : decode cX13_median 49 = .ok (.ireturn, 1) := by decide +kernel
theorem dX13_median_50 : decode cX13_median 50 = .ok (.iinc 3 1, 3) := by decide +kernel
theorem dX13_median_53 : decode cX13_median 53 = .ok (.goto (-32), 3) := by decide +kernel
theorem dX13_median_56 : decode cX13_median 56 = .ok (.iconst (-1), 1) := by decide +kernel
theorem dX13_median_57 : decode cX13_median 57 = .ok (.ireturn, 1) := by decide +kernel
theorem dX13_mixed_0 : decode cX13_mixed 0 = .ok (.aload_n 0, 1) := by decide +kernel
theorem dX13_mixed_1 : decode cX13_mixed 1 = .ok (.invokevirtual 233, 3) := by decide +kernel
theorem dX13_mixed_4 : decode cX13_mixed 4 = .ok (.aload_n 0, 1) := by decide +kernel
theorem dX13_mixed_5 : decode cX13_mixed 5 = .ok (.invokevirtual 236, 3) := by decide +kernel
theorem dX13_mixed_8 : decode cX13_mixed 8 = .ok (.aload_n 0, 1) := by decide +kernel
theorem dX13_mixed_9 : decode cX13_mixed 9 = .ok (.getfield 188, 3) := by decide +kernel
theorem dX13_mixed_12 : decode cX13_mixed 12 = .ok (.ifCond .eq 32, 3) := by decide +kernel
theorem dX13_mixed_15 : decode cX13_mixed 15 = .ok (.iload_n 1, 1) := by decide +kernel
theorem dX13_mixed_16 : decode cX13_mixed 16 = .ok (.i2l, 1) := by decide +kernel
theorem dX13_mixed_17 : decode cX13_mixed 17 = .ok (.lconst 0, 1) := by decide +kernel
theorem dX13_mixed_18 : decode cX13_mixed 18 = .ok (.aload_n 0, 1) := by decide +kernel
theorem dX13_mixed_19 : decode cX13_mixed 19 = .ok (.iconst 0, 1) := by decide +kernel
theorem dX13_mixed_20 : decode cX13_mixed 20 = .ok (.aload_n 0, 1) := by decide +kernel
theorem dX13_mixed_21 : decode cX13_mixed 21 = .ok (.getfield 188, 3) := by decide +kernel
theorem dX13_mixed_24 : decode cX13_mixed 24 = .ok (.iconst 0, 1) := by decide +kernel
theorem dX13_mixed_25 : decode cX13_mixed 25 = .ok (.invokevirtual 191, 3) := by decide +kernel
theorem dX13_mixed_28 : decode cX13_mixed 28 = .ok (.invokestatic 86, 3) := by decide +kernel
theorem dX13_mixed_31 : decode cX13_mixed 31 = .ok (.ifCond .eq 13, 3) := by decide +kernel
theorem dX13_mixed_34 : decode cX13_mixed 34 = .ok (.iload_n 2, 1) := by decide +kernel
theorem dX13_mixed_35 : decode cX13_mixed 35 = .ok (.i2l, 1) := by decide +kernel
theorem dX13_mixed_36 : decode cX13_mixed 36 = .ok (.lconst 0, 1) := by decide +kernel
theorem dX13_mixed_37 : decode cX13_mixed 37 = .ok (.lconst 1, 1) := by decide +kernel
theorem dX13_mixed_38 : decode cX13_mixed 38 = .ok (.invokestatic 86, 3) := by decide +kernel
theorem dX13_mixed_41 : decode cX13_mixed 41 = .ok (.ifCond .ne 7, 3) := by decide +kernel
theorem dX13_mixed_44 : decode cX13_mixed 44 = .ok (.ldc2_w 274, 3) := by decide +kernel
theorem dX13_mixed_47 : decode cX13_mixed 47 = .ok (.lreturn, 1) := by decide +kernel
theorem dX13_mixed_48 : decode cX13_mixed 48 = .ok (.lconst 0, 1) := by decide +kernel
theorem dX13_mixed_49 : decode cX13_mixed 49 = .ok (.lstore_n 3, 1) := by decide +kernel
theorem dX13_mixed_50 : decode cX13_mixed 50 = .ok (.lconst 0, 1) := by decide +kernel
theorem dX13_mixed_51 : decode cX13_mixed 51 = .ok (.lstore 5, 2) := by decide +kernel
theorem dX13_mixed_53 : decode cX13_mixed 53 = .ok (.iconst 0, 1) := by decide +kernel
theorem dX13_mixed_54 : decode cX13_mixed 54 = .ok (.istore 7, 2) := by decide +kernel
theorem dX13_mixed_56 : decode cX13_mixed 56 = .ok (.iload 7, 2) := by decide +kernel
theorem dX13_mixed_58 : decode cX13_mixed 58 = .ok (.aload_n 0, 1) := by decide +kernel
theorem dX13_mixed_59 : decode cX13_mixed 59 = .ok (.getfield 195, 3) := by decide +kernel
theorem dX13_mixed_62 : decode cX13_mixed 62 = .ok (.if_icmp .ge 185, 3) := by decide +kernel
theorem dX13_mixed_65 : decode cX13_mixed 65 = .ok (.aload_n 0, 1) := by decide +kernel
theorem dX13_mixed_66 : decode cX13_mixed 66 = .ok (.aload_n 0, 1) := by decide +kernel
theorem dX13_mixed_67 : decode cX13_mixed 67 = .ok (.getfield 57, 3) := by decide +kernel
theorem dX13_mixed_70 : decode cX13_mixed 70 = .ok (.iload 7, 2) := by decide +kernel
theorem dX13_mixed_72 : decode cX13_mixed 72 = .ok (.iconst 1, 1) := by decide +kernel
theorem dX13_mixed_73 : decode cX13_mixed 73 = .ok (.iadd, 1) := by decide +kernel
theorem dX13_mixed_74 : decode cX13_mixed 74 = .ok (.iaload, 1) := by decide +kernel
theorem dX13_mixed_75 : decode cX13_mixed 75 = .ok (.aload_n 0, 1) := by decide +kernel
theorem dX13_mixed_76 : decode cX13_mixed 76 = .ok (.getfield 188, 3) := by decide +kernel
theorem dX13_mixed_79 : decode cX13_mixed 79 = .ok (.iconst 0, 1) := by decide +kernel
theorem dX13_mixed_80 : decode cX13_mixed 80 = .ok (.invokevirtual 191, 3) := by decide +kernel
theorem dX13_mixed_83 : decode cX13_mixed 83 = .ok (.lstore 8, 2) := by decide +kernel
theorem dX13_mixed_85 : decode cX13_mixed 85 = .ok (.aload_n 0, 1) := by decide +kernel
theorem dX13_mixed_86 : decode cX13_mixed 86 = .ok (.aload_n 0, 1) := by decide +kernel
theorem dX13_mixed_87 : decode cX13_mixed 87 = .ok (.getfield 57, 3) := by decide +kernel
theorem dX13_mixed_90 : decode cX13_mixed 90 = .ok (.iload 7, 2) := by decide +kernel
theorem dX13_mixed_92 : decode cX13_mixed 92 = .ok (.iconst 1, 1) := by decide +kernel
theorem dX13_mixed_93 : decode cX13_mixed 93 = .ok (.iadd, 1) := by decide +kernel
theorem dX13_mixed_94 : decode cX13_mixed 94 = .ok (.iaload, 1) := by decide +kernel
theorem dX13_mixed_95 : decode cX13_mixed 95 = .ok (.aload_n 0, 1) := by decide +kernel
theorem dX13_mixed_96 : decode cX13_mixed 96 = .ok (.getfield 188, 3) := by decide +kernel
theorem dX13_mixed_99 : decode cX13_mixed 99 = .ok (.iconst 1, 1) := by decide +kernel
theorem dX13_mixed_100 : decode cX13_mixed 100 = .ok (.invokevirtual 191, 3) := by decide +kernel
theorem dX13_mixed_103 : decode cX13_mixed 103 = .ok (.lstore 10, 2) := by decide +kernel
theorem dX13_mixed_105 : decode cX13_mixed 105 = .ok (.aload_n 0, 1) := by decide +kernel
theorem dX13_mixed_106 : decode cX13_mixed 106 = .ok (.iload 7, 2) := by decide +kernel
theorem dX13_mixed_108 : decode cX13_mixed 108 = .ok (.iconst 0, 1) := by decide +kernel
theorem dX13_mixed_109 : decode cX13_mixed 109 = .ok (.invokevirtual 198, 3) := by decide +kernel
theorem dX13_mixed_112 : decode cX13_mixed 112 = .ok (.lstore 12, 2) := by decide +kernel
theorem dX13_mixed_114 : decode cX13_mixed 114 = .ok (.aload_n 0, 1) := by decide +kernel
theorem dX13_mixed_115 : decode cX13_mixed 115 = .ok (.iload 7, 2) := by decide +kernel
theorem dX13_mixed_117 : decode cX13_mixed 117 = .ok (.iconst 1, 1) := by decide +kernel
theorem dX13_mixed_118 : decode cX13_mixed 118 = .ok (.invokevirtual 198, 3) := by decide +kernel
theorem dX13_mixed_121 : decode cX13_mixed 121 = .ok (.lstore 14, 2) := by decide +kernel
theorem dX13_mixed_123 : decode cX13_mixed 123 = .ok (.iload_n 1, 1) := by decide +kernel
theorem dX13_mixed_124 : decode cX13_mixed 124 = .ok (.i2l, 1) := by decide +kernel
theorem dX13_mixed_125 : decode cX13_mixed 125 = .ok (.lload 8, 2) := by decide +kernel
theorem dX13_mixed_127 : decode cX13_mixed 127 = .ok (.lcmp, 1) := by decide +kernel
theorem dX13_mixed_128 : decode cX13_mixed 128 = .ok (.ifCond .lt 113, 3) := by decide +kernel
theorem dX13_mixed_131 : decode cX13_mixed 131 = .ok (.iload_n 1, 1) := by decide +kernel
theorem dX13_mixed_132 : decode cX13_mixed 132 = .ok (.i2l, 1) := by decide +kernel
theorem dX13_mixed_133 : decode cX13_mixed 133 = .ok (.lload 8, 2) := by decide +kernel
theorem dX13_mixed_135 : decode cX13_mixed 135 = .ok (.lload 12, 2) := by decide +kernel
theorem dX13_mixed_137 : decode cX13_mixed 137 = .ok (.ladd, 1) := by decide +kernel
theorem dX13_mixed_138 : decode cX13_mixed 138 = .ok (.lcmp, 1) := by decide +kernel
theorem dX13_mixed_139 : decode cX13_mixed 139 = .ok (.ifCond .le 6, 3) := by decide +kernel
theorem dX13_mixed_142 : decode cX13_mixed 142 = .ok (.goto 99, 3) := by decide +kernel
theorem dX13_mixed_145 : decode cX13_mixed 145 = .ok (.lload 12, 2) := by decide +kernel
theorem dX13_mixed_147 : decode cX13_mixed 147 = .ok (.lconst 0, 1) := by decide +kernel
theorem dX13_mixed_148 : decode cX13_mixed 148 = .ok (.lcmp, 1) := by decide +kernel
theorem dX13_mixed_149 : decode cX13_mixed 149 = .ok (.ifCond .ne 8, 3) := by decide +kernel
theorem dX13_mixed_152 : decode cX13_mixed 152 = .ok (.lload 10, 2) := by decide +kernel
theorem dX13_mixed_154 : decode cX13_mixed 154 = .ok (.goto 17, 3) := by decide +kernel
theorem dX13_mixed_157 : decode cX13_mixed 157 = .ok (.lload 10, 2) := by decide +kernel
theorem dX13_mixed_159 : decode cX13_mixed 159 = .ok (.lload 12, 2) := by decide +kernel
theorem dX13_mixed_161 : decode cX13_mixed 161 = .ok (.lmul, 1) := by decide +kernel
theorem dX13_mixed_162 : decode cX13_mixed 162 = .ok (.lload 14, 2) := by decide +kernel
theorem dX13_mixed_164 : decode cX13_mixed 164 = .ok (.iload_n 1, 1) := by decide +kernel
theorem dX13_mixed_165 : decode cX13_mixed 165 = .ok (.i2l, 1) := by decide +kernel
theorem dX13_mixed_166 : decode cX13_mixed 166 = .ok (.lload 8, 2) := by decide +kernel
theorem dX13_mixed_168 : decode cX13_mixed 168 = .ok (.lsub, 1) := by decide +kernel
theorem dX13_mixed_169 : decode cX13_mixed 169 = .ok (.lmul, 1) := by decide +kernel
theorem dX13_mixed_170 : decode cX13_mixed 170 = .ok (.ladd, 1) := by decide +kernel
theorem dX13_mixed_171 : decode cX13_mixed 171 = .ok (.lstore 16, 2) := by decide +kernel
theorem dX13_mixed_173 : decode cX13_mixed 173 = .ok (.lload 12, 2) := by decide +kernel
theorem dX13_mixed_175 : decode cX13_mixed 175 = .ok (.lconst 0, 1) := by decide +kernel
theorem dX13_mixed_176 : decode cX13_mixed 176 = .ok (.lcmp, 1) := by decide +kernel
theorem dX13_mixed_177 : decode cX13_mixed 177 = .ok (.ifCond .ne 7, 3) := by decide +kernel
theorem dX13_mixed_180 : decode cX13_mixed 180 = .ok (.lconst 1, 1) := by decide +kernel
theorem dX13_mixed_181 : decode cX13_mixed 181 = .ok (.goto 5, 3) := by decide +kernel
theorem dX13_mixed_184 : decode cX13_mixed 184 = .ok (.lload 12, 2) := by decide +kernel
theorem dX13_mixed_186 : decode cX13_mixed 186 = .ok (.lstore 18, 2) := by decide +kernel
theorem dX13_mixed_188 : decode cX13_mixed 188 = .ok (.lload 5, 2) := by decide +kernel
theorem dX13_mixed_190 : decode cX13_mixed 190 = .ok (.lconst 0, 1) := by decide +kernel
theorem dX13_mixed_191 : decode cX13_mixed 191 = .ok (.lcmp, 1) := by decide +kernel
theorem dX13_mixed_192 : decode cX13_mixed 192 = .ok (.ifCond .eq 16, 3) := by decide +kernel
theorem dX13_mixed_195 : decode cX13_mixed 195 = .ok (.lload 16, 2) := by decide +kernel
theorem dX13_mixed_197 : decode cX13_mixed 197 = .ok (.lload 5, 2) := by decide +kernel
theorem dX13_mixed_199 : decode cX13_mixed 199 = .ok (.lmul, 1) := by decide +kernel
theorem dX13_mixed_200 : decode cX13_mixed 200 = .ok (.lload_n 3, 1) := by decide +kernel
theorem dX13_mixed_201 : decode cX13_mixed 201 = .ok (.lload 18, 2) := by decide +kernel
theorem dX13_mixed_203 : decode cX13_mixed 203 = .ok (.lmul, 1) := by decide +kernel
theorem dX13_mixed_204 : decode cX13_mixed 204 = .ok (.lcmp, 1) := by decide +kernel
theorem dX13_mixed_205 : decode cX13_mixed 205 = .ok (.ifCond .ge 7, 3) := by decide +kernel
theorem dX13_mixed_208 : decode cX13_mixed 208 = .ok (.iconst 1, 1) := by decide +kernel
theorem dX13_mixed_209 : decode cX13_mixed 209 = .ok (.goto 4, 3) := by decide +kernel
theorem dX13_mixed_212 : decode cX13_mixed 212 = .ok (.iconst 0, 1) := by decide +kernel
theorem dX13_mixed_213 : decode cX13_mixed 213 = .ok (.istore 20, 2) := by decide +kernel
theorem dX13_mixed_215 : decode cX13_mixed 215 = .ok (.iload 20, 2) := by decide +kernel
theorem dX13_mixed_217 : decode cX13_mixed 217 = .ok (.ifCond .eq 8, 3) := by decide +kernel
theorem dX13_mixed_220 : decode cX13_mixed 220 = .ok (.lload 16, 2) := by decide +kernel
theorem dX13_mixed_222 : decode cX13_mixed 222 = .ok (.goto 4, 3) := by decide +kernel
theorem dX13_mixed_225 : decode cX13_mixed 225 = .ok (.lload_n 3, 1) := by decide +kernel
theorem dX13_mixed_226 : decode cX13_mixed 226 = .ok (.lstore_n 3, 1) := by decide +kernel
theorem dX13_mixed_227 : decode cX13_mixed 227 = .ok (.iload 20, 2) := by decide +kernel
theorem dX13_mixed_229 : decode cX13_mixed 229 = .ok (.ifCond .eq 8, 3) := by decide +kernel
theorem dX13_mixed_232 : decode cX13_mixed 232 = .ok (.lload 18, 2) := by decide +kernel
theorem dX13_mixed_234 : decode cX13_mixed 234 = .ok (.goto 5, 3) := by decide +kernel
theorem dX13_mixed_237 : decode cX13_mixed 237 = .ok (.lload 5, 2) := by decide +kernel
theorem dX13_mixed_239 : decode cX13_mixed 239 = .ok (.lstore 5, 2) := by decide +kernel
theorem dX13_mixed_241 : decode cX13_mixed 241 = .ok (.iinc 7 1, 3) := by decide +kernel
theorem dX13_mixed_244 : decode cX13_mixed 244 = .ok (.goto (-188), 3) := by decide +kernel
theorem dX13_mixed_247 : decode cX13_mixed 247 = .ok (.lload_n 3, 1) := by decide +kernel
theorem dX13_mixed_248 : decode cX13_mixed 248 = .ok (.lload 5, 2) := by decide +kernel
theorem dX13_mixed_250 : decode cX13_mixed 250 = .ok (.iload_n 2, 1) := by decide +kernel
theorem dX13_mixed_251 : decode cX13_mixed 251 = .ok (.invokestatic 258, 3) := by decide +kernel
theorem dX13_mixed_254 : decode cX13_mixed 254 = .ok (.lreturn, 1) := by decide +kernel
theorem dX13_resample_0 : decode cX13_resample 0 = .ok (.aload_n 0, 1) := by decide +kernel
theorem dX13_resample_1 : decode cX13_resample 1 = .ok (.invokevirtual 233, 3) := by decide +kernel
theorem dX13_resample_4 : decode cX13_resample 4 = .ok (.aload_n 0, 1) := by decide +kernel
theorem dX13_resample_5 : decode cX13_resample 5 = .ok (.iconst 0, 1) := by decide +kernel
theorem dX13_resample_6 : decode cX13_resample 6 = .ok (.aload_n 0, 1) := by decide +kernel
theorem dX13_resample_7 : decode cX13_resample 7 = .ok (.getfield 188, 3) := by decide +kernel
theorem dX13_resample_10 : decode cX13_resample 10 = .ok (.iconst 2, 1) := by decide +kernel
theorem dX13_resample_11 : decode cX13_resample 11 = .ok (.invokevirtual 191, 3) := by decide +kernel
theorem dX13_resample_14 : decode cX13_resample 14 = .ok (.l2i, 1) := by decide +kernel
theorem dX13_resample_15 : decode cX13_resample 15 = .ok (.istore 4, 2) := by decide +kernel
theorem dX13_resample_17 : decode cX13_resample 17 = .ok (.iload 4, 2) := by decide +kernel
theorem dX13_resample_19 : decode cX13_resample 19 = .ok (.ifCond .eq 15, 3) := by decide +kernel
theorem dX13_resample_22 : decode cX13_resample 22 = .ok (.iload_n 3, 1) := by decide +kernel
theorem dX13_resample_23 : decode cX13_resample 23 = .ok (.i2l, 1) := by decide +kernel
theorem dX13_resample_24 : decode cX13_resample 24 = .ok (.lconst 0, 1) := by decide +kernel
theorem dX13_resample_25 : decode cX13_resample 25 = .ok (.ldc2_w 291, 3) := by decide +kernel
theorem dX13_resample_28 : decode cX13_resample 28 = .ok (.invokestatic 86, 3) := by decide +kernel
theorem dX13_resample_31 : decode cX13_resample 31 = .ok (.ifCond .ne 7, 3) := by decide +kernel
theorem dX13_resample_34 : decode cX13_resample 34 = .ok (.ldc2_w 274, 3) := by decide +kernel
theorem dX13_resample_37 : decode cX13_resample 37 = .ok (.lreturn, 1) := by decide +kernel
theorem dX13_resample_38 : decode cX13_resample 38 = .ok (.bipush 61, 2) := by decide +kernel
theorem dX13_resample_40 : decode cX13_resample 40 = .ok (.newarray .int, 2) := by decide +kernel
theorem dX13_resample_42 : decode cX13_resample 42 = .ok (.astore 5, 2) := by decide +kernel
theorem dX13_resample_44 : decode cX13_resample 44 = .ok (.bipush 61, 2) := by decide +kernel
theorem dX13_resample_46 : decode cX13_resample 46 = .ok (.newarray .int, 2) := by decide +kernel
theorem dX13_resample_48 : decode cX13_resample 48 = .ok (.astore 6, 2) := by decide +kernel
theorem dX13_resample_50 : decode cX13_resample 50 = .ok (.lload_n 1, 1) := by decide +kernel
theorem dX13_resample_51 : decode cX13_resample 51 = .ok (.lstore 7, 2) := by decide +kernel
theorem dX13_resample_53 : decode cX13_resample 53 = .ok (.iconst 0, 1) := by decide +kernel
theorem dX13_resample_54 : decode cX13_resample 54 = .ok (.istore 9, 2) := by decide +kernel
theorem dX13_resample_56 : decode cX13_resample 56 = .ok (.iload 9, 2) := by decide +kernel
theorem dX13_resample_58 : decode cX13_resample 58 = .ok (.iload 4, 2) := by decide +kernel
theorem dX13_resample_60 : decode cX13_resample 60 = .ok (.if_icmp .ge 115, 3) := by decide +kernel
theorem dX13_resample_63 : decode cX13_resample 63 = .ok (.lload 7, 2) := by decide +kernel
theorem dX13_resample_65 : decode cX13_resample 65 = .ok (.ldc2_w 365, 3) := by decide +kernel
theorem dX13_resample_68 : decode cX13_resample 68 = .ok (.lmul, 1) := by decide +kernel
theorem dX13_resample_69 : decode cX13_resample 69 = .ok (.ldc2_w 367, 3) := by decide +kernel
theorem dX13_resample_72 : decode cX13_resample 72 = .ok (.ladd, 1) := by decide +kernel
theorem dX13_resample_73 : decode cX13_resample 73 = .ok (.lstore 7, 2) := by decide +kernel
theorem dX13_resample_75 : decode cX13_resample 75 = .ok (.lload 7, 2) := by decide +kernel
theorem dX13_resample_77 : decode cX13_resample 77 = .ok (.bipush 33, 2) := by decide +kernel
theorem dX13_resample_79 : decode cX13_resample 79 = .ok (.lushr, 1) := by decide +kernel
theorem dX13_resample_80 : decode cX13_resample 80 = .ok (.iload 4, 2) := by decide +kernel
theorem dX13_resample_82 : decode cX13_resample 82 = .ok (.i2l, 1) := by decide +kernel
theorem dX13_resample_83 : decode cX13_resample 83 = .ok (.lrem, 1) := by decide +kernel
theorem dX13_resample_84 : decode cX13_resample 84 = .ok (.l2i, 1) := by decide +kernel
theorem dX13_resample_85 : decode cX13_resample 85 = .ok (.istore 10, 2) := by decide +kernel
theorem dX13_resample_87 : decode cX13_resample 87 = .ok (.iconst 0, 1) := by decide +kernel
theorem dX13_resample_88 : decode cX13_resample 88 = .ok (.istore 11, 2) := by decide +kernel
theorem dX13_resample_90 : decode cX13_resample 90 = .ok (.iload 10, 2) := by decide +kernel
theorem dX13_resample_92 : decode cX13_resample 92 = .ok (.aload_n 0, 1) := by decide +kernel
theorem dX13_resample_93 : decode cX13_resample 93 = .ok (.getfield 51, 3) := by decide +kernel
theorem dX13_resample_96 : decode cX13_resample 96 = .ok (.iload 11, 2) := by decide +kernel
theorem dX13_resample_98 : decode cX13_resample 98 = .ok (.iaload, 1) := by decide +kernel
theorem dX13_resample_99 : decode cX13_resample 99 = .ok (.aload_n 0, 1) := by decide +kernel
theorem dX13_resample_100 : decode cX13_resample 100 = .ok (.getfield 54, 3) := by decide +kernel
theorem dX13_resample_103 : decode cX13_resample 103 = .ok (.iload 11, 2) := by decide +kernel
theorem dX13_resample_105 : decode cX13_resample 105 = .ok (.iaload, 1) := by decide +kernel
theorem dX13_resample_106 : decode cX13_resample 106 = .ok (.iadd, 1) := by decide +kernel
theorem dX13_resample_107 : decode cX13_resample 107 = .ok (.if_icmp .lt 29, 3) := by decide +kernel
theorem dX13_resample_110 : decode cX13_resample 110 = .ok (.iload 10, 2) := by decide +kernel
theorem dX13_resample_112 : decode cX13_resample 112 = .ok (.aload_n 0, 1) := by decide +kernel
theorem dX13_resample_113 : decode cX13_resample 113 = .ok (.getfield 51, 3) := by decide +kernel
theorem dX13_resample_116 : decode cX13_resample 116 = .ok (.iload 11, 2) := by decide +kernel
theorem dX13_resample_118 : decode cX13_resample 118 = .ok (.iaload, 1) := by decide +kernel
theorem dX13_resample_119 : decode cX13_resample 119 = .ok (.aload_n 0, 1) := by decide +kernel
theorem dX13_resample_120 : decode cX13_resample 120 = .ok (.getfield 54, 3) := by decide +kernel
theorem dX13_resample_123 : decode cX13_resample 123 = .ok (.iload 11, 2) := by decide +kernel
theorem dX13_resample_125 : decode cX13_resample 125 = .ok (.iaload, 1) := by decide +kernel
theorem dX13_resample_126 : decode cX13_resample 126 = .ok (.iadd, 1) := by decide +kernel
theorem dX13_resample_127 : decode cX13_resample 127 = .ok (.isub, 1) := by decide +kernel
theorem dX13_resample_128 : decode cX13_resample 128 = .ok (.istore 10, 2) := by decide +kernel
theorem dX13_resample_130 : decode cX13_resample 130 = .ok (.iinc 11 1, 3) := by decide +kernel
theorem dX13_resample_133 : decode cX13_resample 133 = .ok (.goto (-43), 3) := by decide +kernel
theorem dX13_resample_136 : decode cX13_resample 136 = .ok (.iload 10, 2) := by decide +kernel
theorem dX13_resample_138 : decode cX13_resample 138 = .ok (.aload_n 0, 1) := by decide +kernel
theorem dX13_resample_139 : decode cX13_resample 139 = .ok (.getfield 51, 3) := by decide +kernel
theorem dX13_resample_142 : decode cX13_resample 142 = .ok (.iload 11, 2) := by decide +kernel
theorem dX13_resample_144 : decode cX13_resample 144 = .ok (.iaload, 1) := by decide +kernel
theorem dX13_resample_145 : decode cX13_resample 145 = .ok (.if_icmp .ge 15, 3) := by decide +kernel
theorem dX13_resample_148 : decode cX13_resample 148 = .ok (.aload 5, 2) := by decide +kernel
theorem dX13_resample_150 : decode cX13_resample 150 = .ok (.iload 11, 2) := by decide +kernel
theorem dX13_resample_152 : decode cX13_resample 152 = .ok (.dup2, 1) := by decide +kernel
theorem dX13_resample_153 : decode cX13_resample 153 = .ok (.iaload, 1) := by decide +kernel
theorem dX13_resample_154 : decode cX13_resample 154 = .ok (.iconst 1, 1) := by decide +kernel
theorem dX13_resample_155 : decode cX13_resample 155 = .ok (.iadd, 1) := by decide +kernel
theorem dX13_resample_156 : decode cX13_resample 156 = .ok (.iastore, 1) := by decide +kernel
theorem dX13_resample_157 : decode cX13_resample 157 = .ok (.goto 12, 3) := by decide +kernel
theorem dX13_resample_160 : decode cX13_resample 160 = .ok (.aload 6, 2) := by decide +kernel
theorem dX13_resample_162 : decode cX13_resample 162 = .ok (.iload 11, 2) := by decide +kernel
theorem dX13_resample_164 : decode cX13_resample 164 = .ok (.dup2, 1) := by decide +kernel
theorem dX13_resample_165 : decode cX13_resample 165 = .ok (.iaload, 1) := by decide +kernel
theorem dX13_resample_166 : decode cX13_resample 166 = .ok (.iconst 1, 1) := by decide +kernel
theorem dX13_resample_167 : decode cX13_resample 167 = .ok (.iadd, 1) := by decide +kernel
theorem dX13_resample_168 : decode cX13_resample 168 = .ok (.iastore, 1) := by decide +kernel
theorem dX13_resample_169 : decode cX13_resample 169 = .ok (.iinc 9 1, 3) := by decide +kernel
theorem dX13_resample_172 : decode cX13_resample 172 = .ok (.goto (-116), 3) := by decide +kernel
theorem dX13_resample_175 : decode cX13_resample 175 = .ok (.aload_n 0, 1) := by decide +kernel
theorem dX13_resample_176 : decode cX13_resample 176 = .ok (.aload 5, 2) := by decide +kernel
theorem dX13_resample_178 : decode cX13_resample 178 = .ok (.aload 6, 2) := by decide +kernel
theorem dX13_resample_180 : decode cX13_resample 180 = .ok (.invokevirtual 369, 3) := by decide +kernel
theorem dX13_resample_183 : decode cX13_resample 183 = .ok (.iload_n 3, 1) := by decide +kernel
theorem dX13_resample_184 : decode cX13_resample 184 = .ok (.ifCond .ne 16, 3) := by decide +kernel
theorem dX13_resample_187 : decode cX13_resample 187 = .ok (.aload_n 0, 1) := by decide +kernel
theorem dX13_resample_188 : decode cX13_resample 188 = .ok (.iconst 0, 1) := by decide +kernel
theorem dX13_resample_189 : decode cX13_resample 189 = .ok (.aload_n 0, 1) := by decide +kernel
theorem dX13_resample_190 : decode cX13_resample 190 = .ok (.getfield 188, 3) := by decide +kernel
theorem dX13_resample_193 : decode cX13_resample 193 = .ok (.iconst 1, 1) := by decide +kernel
theorem dX13_resample_194 : decode cX13_resample 194 = .ok (.invokevirtual 191, 3) := by decide +kernel
theorem dX13_resample_197 : decode cX13_resample 197 = .ok (.goto 21, 3) := by decide +kernel
theorem dX13_resample_200 : decode cX13_resample 200 = .ok (.iload_n 3, 1) := by decide +kernel
theorem dX13_resample_201 : decode cX13_resample 201 = .ok (.iconst 1, 1) := by decide +kernel
theorem dX13_resample_202 : decode cX13_resample 202 = .ok (.if_icmp .ne 11, 3) := by decide +kernel
theorem dX13_resample_205 : decode cX13_resample 205 = .ok (.aload_n 0, 1) := by decide +kernel
theorem dX13_resample_206 : decode cX13_resample 206 = .ok (.invokevirtual 373, 3) := by decide +kernel
theorem dX13_resample_209 : decode cX13_resample 209 = .ok (.i2l, 1) := by decide +kernel
theorem dX13_resample_210 : decode cX13_resample 210 = .ok (.goto 8, 3) := by decide +kernel
theorem dX13_resample_213 : decode cX13_resample 213 = .ok (.aload_n 0, 1) := by decide +kernel
theorem dX13_resample_214 : decode cX13_resample 214 = .ok (.invokevirtual 376, 3) := by decide +kernel
theorem dX13_resample_217 : decode cX13_resample 217 = .ok (.i2l, 1) := by decide +kernel
theorem dX13_resample_218 : decode cX13_resample 218 = .ok (.lreturn, 1) := by decide +kernel
theorem dX13_takes_0 : decode cX13_takes 0 = .ok (.iconst 0, 1) := by decide +kernel
theorem dX13_takes_1 : decode cX13_takes 1 = .ok (.istore_n 3, 1) := by decide +kernel
theorem dX13_takes_2 : decode cX13_takes 2 = .ok (.iconst 0, 1) := by decide +kernel
theorem dX13_takes_3 : decode cX13_takes 3 = .ok (.istore 4, 2) := by decide +kernel
theorem dX13_takes_5 : decode cX13_takes 5 = .ok (.iload 4, 2) := by decide +kernel
theorem dX13_takes_7 : decode cX13_takes 7 = .ok (.aload_n 0, 1) := by decide +kernel
theorem dX13_takes_8 : decode cX13_takes 8 = .ok (.getfield 188, 3) := by decide +kernel
theorem dX13_takes_11 : decode cX13_takes 11 = .ok (.if_icmp .ge 57, 3) := by decide +kernel
theorem dX13_takes_14 : decode cX13_takes 14 = .ok (.aload_n 1, 1) := by decide +kernel
theorem dX13_takes_15 : decode cX13_takes 15 = .ok (.iload 4, 2) := by decide +kernel
theorem dX13_takes_17 : decode cX13_takes 17 = .ok (.iaload, 1) := by decide +kernel
theorem dX13_takes_18 : decode cX13_takes 18 = .ok (.aload_n 2, 1) := by decide +kernel
theorem dX13_takes_19 : decode cX13_takes 19 = .ok (.iload 4, 2) := by decide +kernel
theorem dX13_takes_21 : decode cX13_takes 21 = .ok (.iaload, 1) := by decide +kernel
theorem dX13_takes_22 : decode cX13_takes 22 = .ok (.iadd, 1) := by decide +kernel
theorem dX13_takes_23 : decode cX13_takes 23 = .ok (.ifCond .le 39, 3) := by decide +kernel
theorem dX13_takes_26 : decode cX13_takes 26 = .ok (.aload_n 0, 1) := by decide +kernel
theorem dX13_takes_27 : decode cX13_takes 27 = .ok (.getfield 48, 3) := by decide +kernel
theorem dX13_takes_30 : decode cX13_takes 30 = .ok (.iload_n 3, 1) := by decide +kernel
theorem dX13_takes_31 : decode cX13_takes 31 = .ok (.aload_n 0, 1) := by decide +kernel
theorem dX13_takes_32 : decode cX13_takes 32 = .ok (.getfield 48, 3) := by decide +kernel
theorem dX13_takes_35 : decode cX13_takes 35 = .ok (.iload 4, 2) := by decide +kernel
theorem dX13_takes_37 : decode cX13_takes 37 = .ok (.iaload, 1) := by decide +kernel
theorem dX13_takes_38 : decode cX13_takes 38 = .ok (.iastore, 1) := by decide +kernel
theorem dX13_takes_39 : decode cX13_takes 39 = .ok (.aload_n 0, 1) := by decide +kernel
theorem dX13_takes_40 : decode cX13_takes 40 = .ok (.getfield 51, 3) := by decide +kernel
theorem dX13_takes_43 : decode cX13_takes 43 = .ok (.iload_n 3, 1) := by decide +kernel
theorem dX13_takes_44 : decode cX13_takes 44 = .ok (.aload_n 1, 1) := by decide +kernel
theorem dX13_takes_45 : decode cX13_takes 45 = .ok (.iload 4, 2) := by decide +kernel
