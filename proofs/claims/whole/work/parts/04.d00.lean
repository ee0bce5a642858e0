theorem dX0_init_0 : decode cX0_init 0 = .ok (.aload_n 0, 1) := by decide +kernel
theorem dX0_init_1 : decode cX0_init 1 = .ok (.invokespecial 1, 3) := by decide +kernel
theorem dX0_init_4 : decode cX0_init 4 = .ok (.aload_n 0, 1) := by decide +kernel
theorem dX0_init_5 : decode cX0_init 5 = .ok (.bipush 10, 2) := by decide +kernel
theorem dX0_init_7 : decode cX0_init 7 = .ok (.newarray .int, 2) := by decide +kernel
theorem dX0_init_9 : decode cX0_init 9 = .ok (.putfield 9, 3) := by decide +kernel
theorem dX0_init_12 : decode cX0_init 12 = .ok (.aload_n 0, 1) := by decide +kernel
theorem dX0_init_13 : decode cX0_init 13 = .ok (.bipush 10, 2) := by decide +kernel
theorem dX0_init_15 : decode cX0_init 15 = .ok (.newarray .int, 2) := by decide +kernel
theorem dX0_init_17 : decode cX0_init 17 = .ok (.putfield 13, 3) := by decide +kernel
theorem dX0_init_20 : decode cX0_init 20 = .ok (.aload_n 0, 1) := by decide +kernel
theorem dX0_init_21 : decode cX0_init 21 = .ok (.bipush 10, 2) := by decide +kernel
theorem dX0_init_23 : decode cX0_init 23 = .ok (.newarray .int, 2) := by decide +kernel
theorem dX0_init_25 : decode cX0_init 25 = .ok (.putfield 16, 3) := by decide +kernel
theorem dX0_init_28 : decode cX0_init 28 = .ok (.aload_n 0, 1) := by decide +kernel
theorem dX0_init_29 : decode cX0_init 29 = .ok (.bipush 10, 2) := by decide +kernel
theorem dX0_init_31 : decode cX0_init 31 = .ok (.newarray .int, 2) := by decide +kernel
theorem dX0_init_33 : decode cX0_init 33 = .ok (.putfield 19, 3) := by decide +kernel
theorem dX0_init_36 : decode cX0_init 36 = .ok (.return_, 1) := by decide +kernel
theorem dX0_append_0 : decode cX0_append 0 = .ok (.aload_n 0, 1) := by decide +kernel
theorem dX0_append_1 : decode cX0_append 1 = .ok (.getfield 22, 3) := by decide +kernel
theorem dX0_append_4 : decode cX0_append 4 = .ok (.bipush 10, 2) := by decide +kernel
theorem dX0_append_6 : decode cX0_append 6 = .ok (.if_icmp .lt 7, 3) := by decide +kernel
theorem dX0_append_9 : decode cX0_append 9 = .ok (.aload_n 0, 1) := by decide +kernel
theorem dX0_append_10 : decode cX0_append 10 = .ok (.invokevirtual 26, 3) := by decide +kernel
theorem dX0_append_13 : decode cX0_append 13 = .ok (.aload_n 0, 1) := by decide +kernel
theorem dX0_append_14 : decode cX0_append 14 = .ok (.getfield 9, 3) := by decide +kernel
theorem dX0_append_17 : decode cX0_append 17 = .ok (.aload_n 0, 1) := by decide +kernel
theorem dX0_append_18 : decode cX0_append 18 = .ok (.getfield 22, 3) := by decide +kernel
theorem dX0_append_21 : decode cX0_append 21 = .ok (.iload_n 1, 1) := by decide +kernel
theorem dX0_append_22 : decode cX0_append 22 = .ok (.iastore, 1) := by decide +kernel
theorem dX0_append_23 : decode cX0_append 23 = .ok (.aload_n 0, 1) := by decide +kernel
theorem dX0_append_24 : decode cX0_append 24 = .ok (.getfield 13, 3) := by decide +kernel
theorem dX0_append_27 : decode cX0_append 27 = .ok (.aload_n 0, 1) := by decide +kernel
theorem dX0_append_28 : decode cX0_append 28 = .ok (.getfield 22, 3) := by decide +kernel
theorem dX0_append_31 : decode cX0_append 31 = .ok (.iload_n 2, 1) := by decide +kernel
theorem dX0_append_32 : decode cX0_append 32 = .ok (.iastore, 1) := by decide +kernel
theorem dX0_append_33 : decode cX0_append 33 = .ok (.aload_n 0, 1) := by decide +kernel
theorem dX0_append_34 : decode cX0_append 34 = .ok (.getfield 16, 3) := by decide +kernel
theorem dX0_append_37 : decode cX0_append 37 = .ok (.aload_n 0, 1) := by decide +kernel
theorem dX0_append_38 : decode cX0_append 38 = .ok (.getfield 22, 3) := by decide +kernel
theorem dX0_append_41 : decode cX0_append 41 = .ok (.iload_n 3, 1) := by decide +kernel
theorem dX0_append_42 : decode cX0_append 42 = .ok (.iastore, 1) := by decide +kernel
theorem dX0_append_43 : decode cX0_append 43 = .ok (.aload_n 0, 1) := by decide +kernel
theorem dX0_append_44 : decode cX0_append 44 = .ok (.getfield 19, 3) := by decide +kernel
theorem dX0_append_47 : decode cX0_append 47 = .ok (.aload_n 0, 1) := by decide +kernel
theorem dX0_append_48 : decode cX0_append 48 = .ok (.getfield 22, 3) := by decide +kernel
theorem dX0_append_51 : decode cX0_append 51 = .ok (.iload 4, 2) := by decide +kernel
theorem dX0_append_53 : decode cX0_append 53 = .ok (.iastore, 1) := by decide +kernel
theorem dX0_append_54 : decode cX0_append 54 = .ok (.aload_n 0, 1) := by decide +kernel
theorem dX0_append_55 : decode cX0_append 55 = .ok (.dup, 1) := by decide +kernel
theorem dX0_append_56 : decode cX0_append 56 = .ok (.getfield 22, 3) := by decide +kernel
theorem dX0_append_59 : decode cX0_append 59 = .ok (.iconst 1, 1) := by decide +kernel
theorem dX0_append_60 : decode cX0_append 60 = .ok (.iadd, 1) := by decide +kernel
theorem dX0_append_61 : decode cX0_append 61 = .ok (.putfield 22, 3) := by decide +kernel
theorem dX0_append_64 : decode cX0_append 64 = .ok (.return_, 1) := by decide +kernel
theorem dX0_dropOldest_0 : decode cX0_dropOldest 0 = .ok (.aload_n 0, 1) := by decide +kernel
theorem dX0_dropOldest_1 : decode cX0_dropOldest 1 = .ok (.bipush 9, 2) := by decide +kernel
theorem dX0_dropOldest_3 : decode cX0_dropOldest 3 = .ok (.putfield 22, 3) := by decide +kernel
theorem dX0_dropOldest_6 : decode cX0_dropOldest 6 = .ok (.aload_n 0, 1) := by decide +kernel
theorem dX0_dropOldest_7 : decode cX0_dropOldest 7 = .ok (.getfield 9, 3) := by decide +kernel
theorem dX0_dropOldest_10 : decode cX0_dropOldest 10 = .ok (.iconst 1, 1) := by decide +kernel
theorem dX0_dropOldest_11 : decode cX0_dropOldest 11 = .ok (.aload_n 0, 1) := by decide +kernel
theorem dX0_dropOldest_12 : decode cX0_dropOldest 12 = .ok (.getfield 9, 3) := by decide +kernel
theorem dX0_dropOldest_15 : decode cX0_dropOldest 15 = .ok (.iconst 0, 1) := by decide +kernel
theorem dX0_dropOldest_16 : decode cX0_dropOldest 16 = .ok (.aload_n 0, 1) := by decide +kernel
theorem dX0_dropOldest_17 : decode cX0_dropOldest 17 = .ok (.getfield 22, 3) := by decide +kernel
theorem dX0_dropOldest_20 : decode cX0_dropOldest 20 = .ok (.invokestatic 29, 3) := by decide +kernel
theorem dX0_dropOldest_23 : decode cX0_dropOldest 23 = .ok (.aload_n 0, 1) := by decide +kernel
theorem dX0_dropOldest_24 : decode cX0_dropOldest 24 = .ok (.getfield 13, 3) := by decide +kernel
theorem dX0_dropOldest_27 : decode cX0_dropOldest 27 = .ok (.iconst 1, 1) := by decide +kernel
theorem dX0_dropOldest_28 : decode cX0_dropOldest 28 = .ok (.aload_n 0, 1) := by decide +kernel
theorem dX0_dropOldest_29 : decode cX0_dropOldest 29 = .ok (.getfield 13, 3) := by decide +kernel
theorem dX0_dropOldest_32 : decode cX0_dropOldest 32 = .ok (.iconst 0, 1) := by decide +kernel
theorem dX0_dropOldest_33 : decode cX0_dropOldest 33 = .ok (.aload_n 0, 1) := by decide +kernel
theorem dX0_dropOldest_34 : decode cX0_dropOldest 34 = .ok (.getfield 22, 3) := by decide +kernel
theorem dX0_dropOldest_37 : decode cX0_dropOldest 37 = .ok (.invokestatic 29, 3) := by decide +kernel
theorem dX0_dropOldest_40 : decode cX0_dropOldest 40 = .ok (.aload_n 0, 1) := by decide +kernel
theorem dX0_dropOldest_41 : decode cX0_dropOldest 41 = .ok (.getfield 16, 3) := by decide +kernel
theorem dX0_dropOldest_44 : decode cX0_dropOldest 44 = .ok (.iconst 1, 1) := by decide +kernel
theorem dX0_dropOldest_45 : decode cX0_dropOldest 45 = .ok (.aload_n 0, 1) := by decide +kernel
theorem dX0_dropOldest_46 : decode cX0_dropOldest 46 = .ok (.getfield 16, 3) := by decide +kernel
theorem dX0_dropOldest_49 : decode cX0_dropOldest 49 = .ok (.iconst 0, 1) := by decide +kernel
theorem dX0_dropOldest_50 : decode cX0_dropOldest 50 = .ok (.aload_n 0, 1) := by decide +kernel
theorem dX0_dropOldest_51 : decode cX0_dropOldest 51 = .ok (.getfield 22, 3) := by decide +kernel
theorem dX0_dropOldest_54 : decode cX0_dropOldest 54 = .ok (.invokestatic 29, 3) := by decide +kernel
theorem dX0_dropOldest_57 : decode cX0_dropOldest 57 = .ok (.aload_n 0, 1) := by decide +kernel
theorem dX0_dropOldest_58 : decode cX0_dropOldest 58 = .ok (.getfield 19, 3) := by decide +kernel
theorem dX0_dropOldest_61 : decode cX0_dropOldest 61 = .ok (.iconst 1, 1) := by decide +kernel
theorem dX0_dropOldest_62 : decode cX0_dropOldest 62 = .ok (.aload_n 0, 1) := by decide +kernel
theorem dX0_dropOldest_63 : decode cX0_dropOldest 63 = .ok (.getfield 19, 3) := by decide +kernel
theorem dX0_dropOldest_66 : decode cX0_dropOldest 66 = .ok (.iconst 0, 1) := by decide +kernel
theorem dX0_dropOldest_67 : decode cX0_dropOldest 67 = .ok (.aload_n 0, 1) := by decide +kernel
theorem dX0_dropOldest_68 : decode cX0_dropOldest 68 = .ok (.getfield 22, 3) := by decide +kernel
theorem dX0_dropOldest_71 : decode cX0_dropOldest 71 = .ok (.invokestatic 29, 3) := by decide +kernel
theorem dX0_dropOldest_74 : decode cX0_dropOldest 74 = .ok (.return_, 1) := by decide +kernel
theorem dX1_init_0 : decode cX1_init 0 = .ok (.aload_n 0, 1) := by decide +kernel
theorem dX1_init_1 : decode cX1_init 1 = .ok (.invokespecial 1, 3) := by decide +kernel
theorem dX1_init_4 : decode cX1_init 4 = .ok (.aload_n 0, 1) := by decide +kernel
theorem dX1_init_5 : decode cX1_init 5 = .ok (.iload_n 1, 1) := by decide +kernel
theorem dX1_init_6 : decode cX1_init 6 = .ok (.iconst 0, 1) := by decide +kernel
theorem dX1_init_7 : decode cX1_init 7 = .ok (.invokestatic 7, 3) := by decide +kernel
theorem dX1_init_10 : decode cX1_init 10 = .ok (.newarray .int, 2) := by decide +kernel
theorem dX1_init_12 : decode cX1_init 12 = .ok (.putfield 13, 3) := by decide +kernel
theorem dX1_init_15 : decode cX1_init 15 = .ok (.aload_n 0, 1) := by decide +kernel
theorem dX1_init_16 : decode cX1_init 16 = .ok (.iconst 0, 1) := by decide +kernel
theorem dX1_init_17 : decode cX1_init 17 = .ok (.putfield 19, 3) := by decide +kernel
theorem dX1_init_20 : decode cX1_init 20 = .ok (.return_, 1) := by decide +kernel
theorem dX1_takes_0 : decode cX1_takes 0 = .ok (.iload_n 1, 1) := by decide +kernel
theorem dX1_takes_1 : decode cX1_takes 1 = .ok (.aload_n 0, 1) := by decide +kernel
theorem dX1_takes_2 : decode cX1_takes 2 = .ok (.getfield 13, 3) := by decide +kernel
theorem dX1_takes_5 : decode cX1_takes 5 = .ok (.arraylength, 1) := by decide +kernel
theorem dX1_takes_6 : decode cX1_takes 6 = .ok (.aload_n 0, 1) := by decide +kernel
theorem dX1_takes_7 : decode cX1_takes 7 = .ok (.getfield 19, 3) := by decide +kernel
theorem dX1_takes_10 : decode cX1_takes 10 = .ok (.isub, 1) := by decide +kernel
theorem dX1_takes_11 : decode cX1_takes 11 = .ok (.if_icmp .gt 7, 3) := by decide +kernel
theorem dX1_takes_14 : decode cX1_takes 14 = .ok (.iconst 1, 1) := by decide +kernel
theorem dX1_takes_15 : decode cX1_takes 15 = .ok (.goto 4, 3) := by decide +kernel
theorem dX1_takes_18 : decode cX1_takes 18 = .ok (.iconst 0, 1) := by decide +kernel
theorem dX1_takes_19 : decode cX1_takes 19 = .ok (.ireturn, 1) := by decide +kernel
theorem dX1_put_0 : decode cX1_put 0 = .ok (.aload_n 0, 1) := by decide +kernel
theorem dX1_put_1 : decode cX1_put 1 = .ok (.iconst 1, 1) := by decide +kernel
theorem dX1_put_2 : decode cX1_put 2 = .ok (.invokevirtual 23, 3) := by decide +kernel
theorem dX1_put_5 : decode cX1_put 5 = .ok (.ifCond .eq 27, 3) := by decide +kernel
theorem dX1_put_8 : decode cX1_put 8 = .ok (.aload_n 0, 1) := by decide +kernel
theorem dX1_put_9 : decode cX1_put 9 = .ok (.getfield 13, 3) := by decide +kernel
theorem dX1_put_12 : decode cX1_put 12 = .ok (.aload_n 0, 1) := by decide +kernel
theorem dX1_put_13 : decode cX1_put 13 = .ok (.getfield 19, 3) := by decide +kernel
theorem dX1_put_16 : decode cX1_put 16 = .ok (.iload_n 1, 1) := by decide +kernel
theorem dX1_put_17 : decode cX1_put 17 = .ok (.sipush 255, 3) := by decide +kernel
theorem dX1_put_20 : decode cX1_put 20 = .ok (.iand, 1) := by decide +kernel
theorem dX1_put_21 : decode cX1_put 21 = .ok (.iastore, 1) := by decide +kernel
theorem dX1_put_22 : decode cX1_put 22 = .ok (.aload_n 0, 1) := by decide +kernel
theorem dX1_put_23 : decode cX1_put 23 = .ok (.dup, 1) := by decide +kernel
theorem dX1_put_24 : decode cX1_put 24 = .ok (.getfield 19, 3) := by decide +kernel
theorem dX1_put_27 : decode cX1_put 27 = .ok (.iconst 1, 1) := by decide +kernel
theorem dX1_put_28 : decode cX1_put 28 = .ok (.iadd, 1) := by decide +kernel
theorem dX1_put_29 : decode cX1_put 29 = .ok (.putfield 19, 3) := by decide +kernel
theorem dX1_put_32 : decode cX1_put 32 = .ok (.return_, 1) := by decide +kernel
theorem dX1_putWord_0 : decode cX1_putWord 0 = .ok (.aload_n 0, 1) := by decide +kernel
theorem dX1_putWord_1 : decode cX1_putWord 1 = .ok (.iload_n 1, 1) := by decide +kernel
theorem dX1_putWord_2 : decode cX1_putWord 2 = .ok (.bipush 24, 2) := by decide +kernel
theorem dX1_putWord_4 : decode cX1_putWord 4 = .ok (.iushr, 1) := by decide +kernel
theorem dX1_putWord_5 : decode cX1_putWord 5 = .ok (.invokevirtual 27, 3) := by decide +kernel
theorem dX1_putWord_8 : decode cX1_putWord 8 = .ok (.aload_n 0, 1) := by decide +kernel
theorem dX1_putWord_9 : decode cX1_putWord 9 = .ok (.iload_n 1, 1) := by decide +kernel
theorem dX1_putWord_10 : decode cX1_putWord 10 = .ok (.bipush 16, 2) := by decide +kernel
theorem dX1_putWord_12 : decode cX1_putWord 12 = .ok (.iushr, 1) := by decide +kernel
theorem dX1_putWord_13 : decode cX1_putWord 13 = .ok (.invokevirtual 27, 3) := by decide +kernel
theorem dX1_putWord_16 : decode cX1_putWord 16 = .ok (.aload_n 0, 1) := by decide +kernel
theorem dX1_putWord_17 : decode cX1_putWord 17 = .ok (.iload_n 1, 1) := by decide +kernel
theorem dX1_putWord_18 : decode cX1_putWord 18 = .ok (.bipush 8, 2) := by decide +kernel
theorem dX1_putWord_20 : decode cX1_putWord 20 = .ok (.iushr, 1) := by decide +kernel
theorem dX1_putWord_21 : decode cX1_putWord 21 = .ok (.invokevirtual 27, 3) := by decide +kernel
theorem dX1_putWord_24 : decode cX1_putWord 24 = .ok (.aload_n 0, 1) := by decide +kernel
theorem dX1_putWord_25 : decode cX1_putWord 25 = .ok (.iload_n 1, 1) := by decide +kernel
theorem dX1_putWord_26 : decode cX1_putWord 26 = .ok (.invokevirtual 27, 3) := by decide +kernel
theorem dX1_putWord_29 : decode cX1_putWord 29 = .ok (.return_, 1) := by decide +kernel
theorem dX1_putNumber_0 : decode cX1_putNumber 0 = .ok (.iconst 1, 1) := by decide +kernel
theorem dX1_putNumber_1 : decode cX1_putNumber 1 = .ok (.istore_n 2, 1) := by decide +kernel
theorem dX1_putNumber_2 : decode cX1_putNumber 2 = .ok (.iload_n 2, 1) := by decide +kernel
theorem dX1_putNumber_3 : decode cX1_putNumber 3 = .ok (.ldc 31, 2) := by decide +kernel
theorem dX1_putNumber_5 : decode cX1_putNumber 5 = .ok (.if_icmp .gt 19, 3) := by decide +kernel
theorem dX1_putNumber_8 : decode cX1_putNumber 8 = .ok (.iload_n 1, 1) := by decide +kernel
theorem dX1_putNumber_9 : decode cX1_putNumber 9 = .ok (.iload_n 2, 1) := by decide +kernel
theorem dX1_putNumber_10 : decode cX1_putNumber 10 = .ok (.idiv, 1) := by decide +kernel
theorem dX1_putNumber_11 : decode cX1_putNumber 11 = .ok (.bipush 10, 2) := by decide +kernel
theorem dX1_putNumber_13 : decode cX1_putNumber 13 = .ok (.if_icmp .lt 11, 3) := by decide +kernel
theorem dX1_putNumber_16 : decode cX1_putNumber 16 = .ok (.iload_n 2, 1) := by decide +kernel
theorem dX1_putNumber_17 : decode cX1_putNumber 17 = .ok (.bipush 10, 2) := by decide +kernel
theorem dX1_putNumber_19 : decode cX1_putNumber 19 = .ok (.imul, 1) := by decide +kernel
theorem dX1_putNumber_20 : decode cX1_putNumber 20 = .ok (.istore_n 2, 1) := by decide +kernel
theorem dX1_putNumber_21 : decode cX1_putNumber 21 = .ok (.goto (-19), 3) := by decide +kernel
theorem dX1_putNumber_24 : decode cX1_putNumber 24 = .ok (.iload_n 2, 1) := by decide +kernel
theorem dX1_putNumber_25 : decode cX1_putNumber 25 = .ok (.ifCond .le 24, 3) := by decide +kernel
theorem dX1_putNumber_28 : decode cX1_putNumber 28 = .ok (.aload_n 0, 1) := by decide +kernel
theorem dX1_putNumber_29 : decode cX1_putNumber 29 = .ok (.bipush 48, 2) := by decide +kernel
theorem dX1_putNumber_31 : decode cX1_putNumber 31 = .ok (.iload_n 1, 1) := by decide +kernel
theorem dX1_putNumber_32 : decode cX1_putNumber 32 = .ok (.iload_n 2, 1) := by decide +kernel
theorem dX1_putNumber_33 : decode cX1_putNumber 33 = .ok (.idiv, 1) := by decide +kernel
theorem dX1_putNumber_34 : decode cX1_putNumber 34 = .ok (.bipush 10, 2) := by decide +kernel
theorem dX1_putNumber_36 : decode cX1_putNumber 36 = .ok (.irem, 1) := by decide +kernel
theorem dX1_putNumber_37 : decode cX1_putNumber 37 = .ok (.iadd, 1) := by decide +kernel
theorem dX1_putNumber_38 : decode cX1_putNumber 38 = .ok (.invokevirtual 27, 3) := by decide +kernel
theorem dX1_putNumber_41 : decode cX1_putNumber 41 = .ok (.iload_n 2, 1) := by decide +kernel
theorem dX1_putNumber_42 : decode cX1_putNumber 42 = .ok (.bipush 10, 2) := by decide +kernel
theorem dX1_putNumber_44 : decode cX1_putNumber 44 = .ok (.idiv, 1) := by decide +kernel
theorem dX1_putNumber_45 : decode cX1_putNumber 45 = .ok (.istore_n 2, 1) := by decide +kernel
theorem dX1_putNumber_46 : decode cX1_putNumber 46 = .ok (.goto (-22), 3) := by decide +kernel
theorem dX1_putNumber_49 : decode cX1_putNumber 49 = .ok (.return_, 1) := by decide +kernel
theorem dX2_init_0 : decode cX2_init 0 = .ok (.aload_n 0, 1) := by decide +kernel
theorem dX2_init_1 : decode cX2_init 1 = .ok (.invokespecial 3, 3) := by decide +kernel
theorem dX2_init_4 : decode cX2_init 4 = .ok (.aload_n 0, 1) := by decide +kernel
theorem dX2_init_5 : decode cX2_init 5 = .ok (.bipush 40, 2) := by decide +kernel
theorem dX2_init_7 : decode cX2_init 7 = .ok (.newarray .int, 2) := by decide +kernel
theorem dX2_init_9 : decode cX2_init 9 = .ok (.putfield 11, 3) := by decide +kernel
theorem dX2_init_12 : decode cX2_init 12 = .ok (.aload_n 0, 1) := by decide +kernel
theorem dX2_init_13 : decode cX2_init 13 = .ok (.bipush 40, 2) := by decide +kernel
theorem dX2_init_15 : decode cX2_init 15 = .ok (.newarray .int, 2) := by decide +kernel
theorem dX2_init_17 : decode cX2_init 17 = .ok (.putfield 15, 3) := by decide +kernel
theorem dX2_init_20 : decode cX2_init 20 = .ok (.aload_n 0, 1) := by decide +kernel
theorem dX2_init_21 : decode cX2_init 21 = .ok (.bipush 40, 2) := by decide +kernel
theorem dX2_init_23 : decode cX2_init 23 = .ok (.newarray .int, 2) := by decide +kernel
theorem dX2_init_25 : decode cX2_init 25 = .ok (.putfield 18, 3) := by decide +kernel
theorem dX2_init_28 : decode cX2_init 28 = .ok (.aload_n 0, 1) := by decide +kernel
theorem dX2_init_29 : decode cX2_init 29 = .ok (.bipush 40, 2) := by decide +kernel
theorem dX2_init_31 : decode cX2_init 31 = .ok (.newarray .int, 2) := by decide +kernel
theorem dX2_init_33 : decode cX2_init 33 = .ok (.putfield 21, 3) := by decide +kernel
theorem dX2_init_36 : decode cX2_init 36 = .ok (.aload_n 0, 1) := by decide +kernel
theorem dX2_init_37 : decode cX2_init 37 = .ok (.bipush 40, 2) := by decide +kernel
theorem dX2_init_39 : decode cX2_init 39 = .ok (.newarray .int, 2) := by decide +kernel
theorem dX2_init_41 : decode cX2_init 41 = .ok (.putfield 24, 3) := by decide +kernel
theorem dX2_init_44 : decode cX2_init 44 = .ok (.return_, 1) := by decide +kernel
theorem dX2_has_0 : decode cX2_has 0 = .ok (.iload_n 1, 1) := by decide +kernel
theorem dX2_has_1 : decode cX2_has 1 = .ok (.ifCond .lt 15, 3) := by decide +kernel
theorem dX2_has_4 : decode cX2_has 4 = .ok (.iload_n 1, 1) := by decide +kernel
theorem dX2_has_5 : decode cX2_has 5 = .ok (.aload_n 0, 1) := by decide +kernel
theorem dX2_has_6 : decode cX2_has 6 = .ok (.getfield 27, 3) := by decide +kernel
theorem dX2_has_9 : decode cX2_has 9 = .ok (.if_icmp .ge 7, 3) := by decide +kernel
theorem dX2_has_12 : decode cX2_has 12 = .ok (.iconst 1, 1) := by decide +kernel
theorem dX2_has_13 : decode cX2_has 13 = .ok (.goto 4, 3) := by decide +kernel
theorem dX2_has_16 : decode cX2_has 16 = .ok (.iconst 0, 1) := by decide +kernel
theorem dX2_has_17 : decode cX2_has 17 = .ok (.ireturn, 1) := by decide +kernel
theorem dX2_hasRoom_0 : decode cX2_hasRoom 0 = .ok (.aload_n 0, 1) := by decide +kernel
theorem dX2_hasRoom_1 : decode cX2_hasRoom 1 = .ok (.getfield 27, 3) := by decide +kernel
theorem dX2_hasRoom_4 : decode cX2_hasRoom 4 = .ok (.bipush 40, 2) := by decide +kernel
theorem dX2_hasRoom_6 : decode cX2_hasRoom 6 = .ok (.if_icmp .ge 7, 3) := by decide +kernel
theorem dX2_hasRoom_9 : decode cX2_hasRoom 9 = .ok (.iconst 1, 1) := by decide +kernel
theorem dX2_hasRoom_10 : decode cX2_hasRoom 10 = .ok (.goto 4, 3) := by decide +kernel
theorem dX2_hasRoom_13 : decode cX2_hasRoom 13 = .ok (.iconst 0, 1) := by decide +kernel
theorem dX2_hasRoom_14 : decode cX2_hasRoom 14 = .ok (.ireturn, 1) := by decide +kernel
theorem dX2_append_0 : decode cX2_append 0 = .ok (.aload_n 0, 1) := by decide +kernel
theorem dX2_append_1 : decode cX2_append 1 = .ok (.invokevirtual 31, 3) := by decide +kernel
theorem dX2_append_4 : decode cX2_append 4 = .ok (.ifCond .ne 4, 3) := by decide +kernel
theorem dX2_append_7 : decode cX2_append 7 = .ok (.return_, 1) := by decide +kernel
theorem dX2_append_8 : decode cX2_append 8 = .ok (.aload_n 0, 1) := by decide +kernel
theorem dX2_append_9 : decode cX2_append 9 = .ok (.getfield 11, 3) := by decide +kernel
theorem dX2_append_12 : decode cX2_append 12 = .ok (.aload_n 0, 1) := by decide +kernel
theorem dX2_append_13 : decode cX2_append 13 = .ok (.getfield 27, 3) := by decide +kernel
theorem dX2_append_16 : decode cX2_append 16 = .ok (.iload_n 1, 1) := by decide +kernel
theorem dX2_append_17 : decode cX2_append 17 = .ok (.iastore, 1) := by decide +kernel
theorem dX2_append_18 : decode cX2_append 18 = .ok (.aload_n 0, 1) := by decide +kernel
theorem dX2_append_19 : decode cX2_append 19 = .ok (.getfield 15, 3) := by decide +kernel
theorem dX2_append_22 : decode cX2_append 22 = .ok (.aload_n 0, 1) := by decide +kernel
theorem dX2_append_23 : decode cX2_append 23 = .ok (.getfield 27, 3) := by decide +kernel
theorem dX2_append_26 : decode cX2_append 26 = .ok (.iload_n 2, 1) := by decide +kernel
theorem dX2_append_27 : decode cX2_append 27 = .ok (.iastore, 1) := by decide +kernel
theorem dX2_append_28 : decode cX2_append 28 = .ok (.aload_n 0, 1) := by decide +kernel
theorem dX2_append_29 : decode cX2_append 29 = .ok (.getfield 18, 3) := by decide +kernel
theorem dX2_append_32 : decode cX2_append 32 = .ok (.aload_n 0, 1) := by decide +kernel
theorem dX2_append_33 : decode cX2_append 33 = .ok (.getfield 27, 3) := by decide +kernel
theorem dX2_append_36 : decode cX2_append 36 = .ok (.iload_n 3, 1) := by decide +kernel
theorem dX2_append_37 : decode cX2_append 37 = .ok (.iastore, 1) := by decide +kernel
theorem dX2_append_38 : decode cX2_append 38 = .ok (.aload_n 0, 1) := by decide +kernel
theorem dX2_append_39 : decode cX2_append 39 = .ok (.getfield 21, 3) := by decide +kernel
theorem dX2_append_42 : decode cX2_append 42 = .ok (.aload_n 0, 1) := by decide +kernel
theorem dX2_append_43 : decode cX2_append 43 = .ok (.getfield 27, 3) := by decide +kernel
theorem dX2_append_46 : decode cX2_append 46 = .ok (.iconst (-1), 1) := by decide +kernel
theorem dX2_append_47 : decode cX2_append 47 = .ok (.iastore, 1) := by decide +kernel
theorem dX2_append_48 : decode cX2_append 48 = .ok (.aload_n 0, 1) := by decide +kernel
theorem dX2_append_49 : decode cX2_append 49 = .ok (.getfield 24, 3) := by decide +kernel
theorem dX2_append_52 : decode cX2_append 52 = .ok (.aload_n 0, 1) := by decide +kernel
theorem dX2_append_53 : decode cX2_append 53 = .ok (.getfield 27, 3) := by decide +kernel
theorem dX2_append_56 : decode cX2_append 56 = .ok (.iconst 0, 1) := by decide +kernel
theorem dX2_append_57 : decode cX2_append 57 = .ok (.iastore, 1) := by decide +kernel
theorem dX2_append_58 : decode cX2_append 58 = .ok (.aload_n 0, 1) := by decide +kernel
theorem dX2_append_59 : decode cX2_append 59 = .ok (.dup, 1) := by decide +kernel
theorem dX2_append_60 : decode cX2_append 60 = .ok (.getfield 27, 3) := by decide +kernel
theorem dX2_append_63 : decode cX2_append 63 = .ok (.iconst 1, 1) := by decide +kernel
theorem dX2_append_64 : decode cX2_append 64 = .ok (.iadd, 1) := by decide +kernel
theorem dX2_append_65 : decode cX2_append 65 = .ok (.putfield 27, 3) := by decide +kernel
theorem dX2_append_68 : decode cX2_append 68 = .ok (.return_, 1) := by decide +kernel
theorem dX2_dropLast_0 : decode cX2_dropLast 0 = .ok (.aload_n 0, 1) := by decide +kernel
theorem dX2_dropLast_1 : decode cX2_dropLast 1 = .ok (.getfield 27, 3) := by decide +kernel
theorem dX2_dropLast_4 : decode cX2_dropLast 4 = .ok (.ifCond .le 13, 3) := by decide +kernel
theorem dX2_dropLast_7 : decode cX2_dropLast 7 = .ok (.aload_n 0, 1) := by decide +kernel
theorem dX2_dropLast_8 : decode cX2_dropLast 8 = .ok (.dup, 1) := by decide +kernel
theorem dX2_dropLast_9 : decode cX2_dropLast 9 = .ok (.getfield 27, 3) := by decide +kernel
theorem dX2_dropLast_12 : decode cX2_dropLast 12 = .ok (.iconst 1, 1) := by decide +kernel
theorem dX2_dropLast_13 : decode cX2_dropLast 13 = .ok (.isub, 1) := by decide +kernel
theorem dX2_dropLast_14 : decode cX2_dropLast 14 = .ok (.putfield 27, 3) := by decide +kernel
theorem dX2_dropLast_17 : decode cX2_dropLast 17 = .ok (.return_, 1) := by decide +kernel
theorem dX2_forget_0 : decode cX2_forget 0 = .ok (.aload_n 0, 1) := by decide +kernel
theorem dX2_forget_1 : decode cX2_forget 1 = .ok (.iload_n 1, 1) := by decide +kernel
theorem dX2_forget_2 : decode cX2_forget 2 = .ok (.invokevirtual 35, 3) := by decide +kernel
theorem dX2_forget_5 : decode cX2_forget 5 = .ok (.ifCond .eq 10, 3) := by decide +kernel
theorem dX2_forget_8 : decode cX2_forget 8 = .ok (.aload_n 0, 1) := by decide +kernel
theorem dX2_forget_9 : decode cX2_forget 9 = .ok (.getfield 21, 3) := by decide +kernel
theorem dX2_forget_12 : decode cX2_forget 12 = .ok (.iload_n 1, 1) := by decide +kernel
theorem dX2_forget_13 : decode cX2_forget 13 = .ok (.iconst (-1), 1) := by decide +kernel
theorem dX2_forget_14 : decode cX2_forget 14 = .ok (.iastore, 1) := by decide +kernel
theorem dX2_forget_15 : decode cX2_forget 15 = .ok (.return_, 1) := by decide +kernel
theorem dX2_isPending_0 : decode cX2_isPending 0 = .ok (.aload_n 0, 1) := by decide +kernel
theorem dX2_isPending_1 : decode cX2_isPending 1 = .ok (.getfield 21, 3) := by decide +kernel
theorem dX2_isPending_4 : decode cX2_isPending 4 = .ok (.iload_n 1, 1) := by decide +kernel
theorem dX2_isPending_5 : decode cX2_isPending 5 = .ok (.iaload, 1) := by decide +kernel
theorem dX2_isPending_6 : decode cX2_isPending 6 = .ok (.iconst (-1), 1) := by decide +kernel
theorem dX2_isPending_7 : decode cX2_isPending 7 = .ok (.if_icmp .eq 16, 3) := by decide +kernel
theorem dX2_isPending_10 : decode cX2_isPending 10 = .ok (.aload_n 0, 1) := by decide +kernel
theorem dX2_isPending_11 : decode cX2_isPending 11 = .ok (.getfield 24, 3) := by decide +kernel
theorem dX2_isPending_14 : decode cX2_isPending 14 = .ok (.iload_n 1, 1) := by decide +kernel
theorem dX2_isPending_15 : decode cX2_isPending 15 = .ok (.iaload, 1) := by decide +kernel
theorem dX2_isPending_16 : decode cX2_isPending 16 = .ok (.ifCond .ne 7, 3) := by decide +kernel
theorem dX2_isPending_19 : decode cX2_isPending 19 = .ok (.iconst 1, 1) := by decide +kernel
theorem dX2_isPending_20 : decode cX2_isPending 20 = .ok (.goto 4, 3) := by decide +kernel
theorem dX2_isPending_23 : decode cX2_isPending 23 = .ok (.iconst 0, 1) := by decide +kernel
theorem dX2_isPending_24 : decode cX2_isPending 24 = .ok (.ireturn, 1) := by decide +kernel
theorem dX2_isOverride_0 : decode cX2_isOverride 0 = .ok (.iload_n 2, 1) := by decide +kernel
theorem dX2_isOverride_1 : decode cX2_isOverride 1 = .ok (.tableswitch 100 0 2 #[27, 48, 69], 27) := by decide +kernel
theorem dX2_isOverride_28 : decode cX2_isOverride 28 = .ok (.aload_n 0, 1) := by decide +kernel
theorem dX2_isOverride_29 : decode cX2_isOverride 29 = .ok (.getfield 15, 3) := by decide +kernel
theorem dX2_isOverride_32 : decode cX2_isOverride 32 = .ok (.iload_n 1, 1) := by decide +kernel
theorem dX2_isOverride_33 : decode cX2_isOverride 33 = .ok (.iaload, 1) := by decide +kernel
theorem dX2_isOverride_34 : decode cX2_isOverride 34 = .ok (.aload_n 0, 1) := by decide +kernel
theorem dX2_isOverride_35 : decode cX2_isOverride 35 = .ok (.getfield 18, 3) := by decide +kernel
theorem dX2_isOverride_38 : decode cX2_isOverride 38 = .ok (.iload_n 1, 1) := by decide +kernel
theorem dX2_isOverride_39 : decode cX2_isOverride 39 = .ok (.iaload, 1) := by decide +kernel
theorem dX2_isOverride_40 : decode cX2_isOverride 40 = .ok (.if_icmp .le 7, 3) := by decide +kernel
theorem dX2_isOverride_43 : decode cX2_isOverride 43 = .ok (.iconst 1, 1) := by decide +kernel
theorem dX2_isOverride_44 : decode cX2_isOverride 44 = .ok (.goto 4, 3) := by decide +kernel
theorem dX2_isOverride_47 : decode cX2_isOverride 47 = .ok (.iconst 0, 1) := by decide +kernel
theorem dX2_isOverride_48 : decode cX2_isOverride 48 = .ok (.ireturn, 1) := by decide +kernel
theorem dX2_isOverride_49 : decode cX2_isOverride 49 = .ok (.aload_n 0, 1) := by decide +kernel
theorem dX2_isOverride_50 : decode cX2_isOverride 50 = .ok (.getfield 15, 3) := by decide +kernel
theorem dX2_isOverride_53 : decode cX2_isOverride 53 = .ok (.iload_n 1, 1) := by decide +kernel
theorem dX2_isOverride_54 : decode cX2_isOverride 54 = .ok (.iaload, 1) := by decide +kernel
theorem dX2_isOverride_55 : decode cX2_isOverride 55 = .ok (.aload_n 0, 1) := by decide +kernel
theorem dX2_isOverride_56 : decode cX2_isOverride 56 = .ok (.getfield 18, 3) := by decide +kernel
theorem dX2_isOverride_59 : decode cX2_isOverride 59 = .ok (.iload_n 1, 1) := by decide +kernel
theorem dX2_isOverride_60 : decode cX2_isOverride 60 = .ok (.iaload, 1) := by decide +kernel
theorem dX2_isOverride_61 : decode cX2_isOverride 61 = .ok (.if_icmp .ge 7, 3) := by decide +kernel
theorem dX2_isOverride_64 : decode cX2_isOverride 64 = .ok (.iconst 1, 1) := by decide +kernel
theorem dX2_isOverride_65 : decode cX2_isOverride 65 = .ok (.goto 4, 3) := by decide +kernel
theorem dX2_isOverride_68 : decode cX2_isOverride 68 = .ok (.iconst 0, 1) := by decide +kernel
theorem dX2_isOverride_69 : decode cX2_isOverride 69 = .ok (.ireturn, 1) := by decide +kernel
theorem dX2_isOverride_70 : decode cX2_isOverride 70 = .ok (.aload_n 0, 1) := by decide +kernel
theorem dX2_isOverride_71 : decode cX2_isOverride 71 = .ok (.getfield 15, 3) := by decide +kernel
theorem dX2_isOverride_74 : decode cX2_isOverride 74 = .ok (.iload_n 1, 1) := by decide +kernel
theorem dX2_isOverride_75 : decode cX2_isOverride 75 = .ok (.iaload, 1) := by decide +kernel
theorem dX2_isOverride_76 : decode cX2_isOverride 76 = .ok (.aload_n 0, 1) := by decide +kernel
theorem dX2_isOverride_77 : decode cX2_isOverride 77 = .ok (.getfield 18, 3) := by decide +kernel
theorem dX2_isOverride_80 : decode cX2_isOverride 80 = .ok (.iload_n 1, 1) := by decide +kernel
theorem dX2_isOverride_81 : decode cX2_isOverride 81 = .ok (.iaload, 1) := by decide +kernel
theorem dX2_isOverride_82 : decode cX2_isOverride 82 = .ok (.if_icmp .le 17, 3) := by decide +kernel
theorem dX2_isOverride_85 : decode cX2_isOverride 85 = .ok (.aload_n 0, 1) := by decide +kernel
theorem dX2_isOverride_86 : decode cX2_isOverride 86 = .ok (.getfield 21, 3) := by decide +kernel
theorem dX2_isOverride_89 : decode cX2_isOverride 89 = .ok (.iload_n 1, 1) := by decide +kernel
theorem dX2_isOverride_90 : decode cX2_isOverride 90 = .ok (.iaload, 1) := by decide +kernel
theorem dX2_isOverride_91 : decode cX2_isOverride 91 = .ok (.iconst 1, 1) := by decide +kernel
theorem dX2_isOverride_92 : decode cX2_isOverride 92 = .ok (.if_icmp .ne 7, 3) := by decide +kernel
theorem dX2_isOverride_95 : decode cX2_isOverride 95 = .ok (.iconst 1, 1) := by decide +kernel
theorem dX2_isOverride_96 : decode cX2_isOverride 96 = .ok (.goto 4, 3) := by decide +kernel
theorem dX2_isOverride_99 : decode cX2_isOverride 99 = .ok (.iconst 0, 1) := by decide +kernel
theorem dX2_isOverride_100 : decode cX2_isOverride 100 = .ok (.ireturn, 1) := by decide +kernel
theorem dX2_isOverride_101 : decode cX2_isOverride 101 = .ok (.aload_n 0, 1) := by decide +kernel
theorem dX2_isOverride_102 : decode cX2_isOverride 102 = .ok (.iload_n 1, 1) := by decide +kernel
theorem dX2_isOverride_103 : decode cX2_isOverride 103 = .ok (.invokevirtual 39, 3) := by decide +kernel
theorem dX2_isOverride_106 : decode cX2_isOverride 106 = .ok (.ireturn, 1) := by decide +kernel
theorem dX2_markPending_0 : decode cX2_markPending 0 = .ok (.aload_n 0, 1) := by decide +kernel
theorem dX2_markPending_1 : decode cX2_markPending 1 = .ok (.dup, 1) := by decide +kernel
theorem dX2_markPending_2 : decode cX2_markPending 2 = .ok (.getfield 42, 3) := by decide +kernel
theorem dX2_markPending_5 : decode cX2_markPending 5 = .ok (.iconst 1, 1) := by decide +kernel
theorem dX2_markPending_6 : decode cX2_markPending 6 = .ok (.iadd, 1) := by decide +kernel
theorem dX2_markPending_7 : decode cX2_markPending 7 = .ok (.putfield 42, 3) := by decide +kernel
theorem dX2_markPending_10 : decode cX2_markPending 10 = .ok (.iconst 0, 1) := by decide +kernel
theorem dX2_markPending_11 : decode cX2_markPending 11 = .ok (.istore_n 1, 1) := by decide +kernel
theorem dX2_markPending_12 : decode cX2_markPending 12 = .ok (.iload_n 1, 1) := by decide +kernel
theorem dX2_markPending_13 : decode cX2_markPending 13 = .ok (.aload_n 0, 1) := by decide +kernel
theorem dX2_markPending_14 : decode cX2_markPending 14 = .ok (.getfield 27, 3) := by decide +kernel
theorem dX2_markPending_17 : decode cX2_markPending 17 = .ok (.if_icmp .ge 27, 3) := by decide +kernel
theorem dX2_markPending_20 : decode cX2_markPending 20 = .ok (.aload_n 0, 1) := by decide +kernel
theorem dX2_markPending_21 : decode cX2_markPending 21 = .ok (.iload_n 1, 1) := by decide +kernel
theorem dX2_markPending_22 : decode cX2_markPending 22 = .ok (.invokevirtual 39, 3) := by decide +kernel
theorem dX2_markPending_25 : decode cX2_markPending 25 = .ok (.ifCond .eq 13, 3) := by decide +kernel
theorem dX2_markPending_28 : decode cX2_markPending 28 = .ok (.aload_n 0, 1) := by decide +kernel
theorem dX2_markPending_29 : decode cX2_markPending 29 = .ok (.getfield 24, 3) := by decide +kernel
theorem dX2_markPending_32 : decode cX2_markPending 32 = .ok (.iload_n 1, 1) := by decide +kernel
theorem dX2_markPending_33 : decode cX2_markPending 33 = .ok (.aload_n 0, 1) := by decide +kernel
theorem dX2_markPending_34 : decode cX2_markPending 34 = .ok (.getfield 42, 3) := by decide +kernel
theorem dX2_markPending_37 : decode cX2_markPending 37 = .ok (.iastore, 1) := by decide +kernel
theorem dX2_markPending_38 : decode cX2_markPending 38 = .ok (.iinc 1 1, 3) := by decide +kernel
theorem dX2_markPending_41 : decode cX2_markPending 41 = .ok (.goto (-29), 3) := by decide +kernel
theorem dX2_markPending_44 : decode cX2_markPending 44 = .ok (.aload_n 0, 1) := by decide +kernel
theorem dX2_markPending_45 : decode cX2_markPending 45 = .ok (.getfield 42, 3) := by decide +kernel
theorem dX2_markPending_48 : decode cX2_markPending 48 = .ok (.ireturn, 1) := by decide +kernel
theorem dX2_unmark_0 : decode cX2_unmark 0 = .ok (.iconst 0, 1) := by decide +kernel
theorem dX2_unmark_1 : decode cX2_unmark 1 = .ok (.istore_n 2, 1) := by decide +kernel
theorem dX2_unmark_2 : decode cX2_unmark 2 = .ok (.iload_n 2, 1) := by decide +kernel
theorem dX2_unmark_3 : decode cX2_unmark 3 = .ok (.aload_n 0, 1) := by decide +kernel
theorem dX2_unmark_4 : decode cX2_unmark 4 = .ok (.getfield 27, 3) := by decide +kernel
theorem dX2_unmark_7 : decode cX2_unmark 7 = .ok (.if_icmp .ge 26, 3) := by decide +kernel
theorem dX2_unmark_10 : decode cX2_unmark 10 = .ok (.aload_n 0, 1) := by decide +kernel
theorem dX2_unmark_11 : decode cX2_unmark 11 = .ok (.getfield 24, 3) := by decide +kernel
theorem dX2_unmark_14 : decode cX2_unmark 14 = .ok (.iload_n 2, 1) := by decide +kernel
theorem dX2_unmark_15 : decode cX2_unmark 15 = .ok (.iaload, 1) := by decide +kernel
theorem dX2_unmark_16 : decode cX2_unmark 16 = .ok (.iload_n 1, 1) := by decide +kernel
theorem dX2_unmark_17 : decode cX2_unmark 17 = .ok (.if_icmp .ne 10, 3) := by decide +kernel
theorem dX2_unmark_20 : decode cX2_unmark 20 = .ok (.aload_n 0, 1) := by decide +kernel
theorem dX2_unmark_21 : decode cX2_unmark 21 = .ok (.getfield 24, 3) := by decide +kernel
theorem dX2_unmark_24 : decode cX2_unmark 24 = .ok (.iload_n 2, 1) := by decide +kernel
theorem dX2_unmark_25 : decode cX2_unmark 25 = .ok (.iconst 0, 1) := by decide +kernel
theorem dX2_unmark_26 : decode cX2_unmark 26 = .ok (.iastore, 1) := by decide +kernel
theorem dX2_unmark_27 : decode cX2_unmark 27 = .ok (.iinc 2 1, 3) := by decide +kernel
theorem dX2_unmark_30 : decode cX2_unmark 30 = .ok (.goto (-28), 3) := by decide +kernel
theorem dX2_unmark_33 : decode cX2_unmark 33 = .ok (.return_, 1) := by decide +kernel
theorem dX2_learntIn_0 : decode cX2_learntIn 0 = .ok (.iconst 0, 1) := by decide +kernel
theorem dX2_learntIn_1 : decode cX2_learntIn 1 = .ok (.istore_n 2, 1) := by decide +kernel
theorem dX2_learntIn_2 : decode cX2_learntIn 2 = .ok (.iconst 0, 1) := by decide +kernel
theorem dX2_learntIn_3 : decode cX2_learntIn 3 = .ok (.istore_n 3, 1) := by decide +kernel
theorem dX2_learntIn_4 : decode cX2_learntIn 4 = .ok (.iload_n 3, 1) := by decide +kernel
theorem dX2_learntIn_5 : decode cX2_learntIn 5 = .ok (.aload_n 0, 1) := by decide +kernel
theorem dX2_learntIn_6 : decode cX2_learntIn 6 = .ok (.getfield 27, 3) := by decide +kernel
theorem dX2_learntIn_9 : decode cX2_learntIn 9 = .ok (.if_icmp .ge 22, 3) := by decide +kernel
theorem dX2_learntIn_12 : decode cX2_learntIn 12 = .ok (.aload_n 0, 1) := by decide +kernel
theorem dX2_learntIn_13 : decode cX2_learntIn 13 = .ok (.getfield 24, 3) := by decide +kernel
theorem dX2_learntIn_16 : decode cX2_learntIn 16 = .ok (.iload_n 3, 1) := by decide +kernel
theorem dX2_learntIn_17 : decode cX2_learntIn 17 = .ok (.iaload, 1) := by decide +kernel
theorem dX2_learntIn_18 : decode cX2_learntIn 18 = .ok (.iload_n 1, 1) := by decide +kernel
theorem dX2_learntIn_19 : decode cX2_learntIn 19 = .ok (.if_icmp .ne 6, 3) := by decide +kernel
theorem dX2_learntIn_22 : decode cX2_learntIn 22 = .ok (.iinc 2 1, 3) := by decide +kernel
theorem dX2_learntIn_25 : decode cX2_learntIn 25 = .ok (.iinc 3 1, 3) := by decide +kernel
theorem dX2_learntIn_28 : decode cX2_learntIn 28 = .ok (.goto (-24), 3) := by decide +kernel
theorem dX2_learntIn_31 : decode cX2_learntIn 31 = .ok (.iload_n 2, 1) := by decide +kernel
theorem dX2_learntIn_32 : decode cX2_learntIn 32 = .ok (.ireturn, 1) := by decide +kernel
theorem dX2_move_0 : decode cX2_move 0 = .ok (.iconst 0, 1) := by decide +kernel
theorem dX2_move_1 : decode cX2_move 1 = .ok (.istore 4, 2) := by decide +kernel
theorem dX2_move_3 : decode cX2_move 3 = .ok (.iload 4, 2) := by decide +kernel
theorem dX2_move_5 : decode cX2_move 5 = .ok (.aload_n 0, 1) := by decide +kernel
theorem dX2_move_6 : decode cX2_move 6 = .ok (.getfield 27, 3) := by decide +kernel
theorem dX2_move_9 : decode cX2_move 9 = .ok (.if_icmp .ge 62, 3) := by decide +kernel
theorem dX2_move_12 : decode cX2_move 12 = .ok (.aload_n 0, 1) := by decide +kernel
theorem dX2_move_13 : decode cX2_move 13 = .ok (.getfield 24, 3) := by decide +kernel
theorem dX2_move_16 : decode cX2_move 16 = .ok (.iload 4, 2) := by decide +kernel
theorem dX2_move_18 : decode cX2_move 18 = .ok (.iaload, 1) := by decide +kernel
theorem dX2_move_19 : decode cX2_move 19 = .ok (.iload_n 2, 1) := by decide +kernel
theorem dX2_move_20 : decode cX2_move 20 = .ok (.if_icmp .ne 45, 3) := by decide +kernel
theorem dX2_move_23 : decode cX2_move 23 = .ok (.aload_n 1, 1) := by decide +kernel
theorem dX2_move_24 : decode cX2_move 24 = .ok (.aload_n 0, 1) := by decide +kernel
theorem dX2_move_25 : decode cX2_move 25 = .ok (.getfield 11, 3) := by decide +kernel
theorem dX2_move_28 : decode cX2_move 28 = .ok (.iload 4, 2) := by decide +kernel
theorem dX2_move_30 : decode cX2_move 30 = .ok (.iaload, 1) := by decide +kernel
theorem dX2_move_31 : decode cX2_move 31 = .ok (.aload_n 0, 1) := by decide +kernel
theorem dX2_move_32 : decode cX2_move 32 = .ok (.getfield 21, 3) := by decide +kernel
theorem dX2_move_35 : decode cX2_move 35 = .ok (.iload 4, 2) := by decide +kernel
theorem dX2_move_37 : decode cX2_move 37 = .ok (.iaload, 1) := by decide +kernel
theorem dX2_move_38 : decode cX2_move 38 = .ok (.ifCond .ne 7, 3) := by decide +kernel
theorem dX2_move_41 : decode cX2_move 41 = .ok (.iload_n 3, 1) := by decide +kernel
theorem dX2_move_42 : decode cX2_move 42 = .ok (.goto 4, 3) := by decide +kernel
theorem dX2_move_45 : decode cX2_move 45 = .ok (.iconst 0, 1) := by decide +kernel
theorem dX2_move_46 : decode cX2_move 46 = .ok (.aload_n 0, 1) := by decide +kernel
theorem dX2_move_47 : decode cX2_move 47 = .ok (.getfield 21, 3) := by decide +kernel
theorem dX2_move_50 : decode cX2_move 50 = .ok (.iload 4, 2) := by decide +kernel
theorem dX2_move_52 : decode cX2_move 52 = .ok (.iaload, 1) := by decide +kernel
theorem dX2_move_53 : decode cX2_move 53 = .ok (.iconst 1, 1) := by decide +kernel
theorem dX2_move_54 : decode cX2_move 54 = .ok (.if_icmp .ne 7, 3) := by decide +kernel
theorem dX2_move_57 : decode cX2_move 57 = .ok (.iload_n 3, 1) := by decide +kernel
theorem dX2_move_58 : decode cX2_move 58 = .ok (.goto 4, 3) := by decide +kernel
theorem dX2_move_61 : decode cX2_move 61 = .ok (.iconst 0, 1) := by decide +kernel
theorem dX2_move_62 : decode cX2_move 62 = .ok (.invokevirtual 45, 3) := by decide +kernel
theorem dX2_move_65 : decode cX2_move 65 = .ok (.iinc 4 1, 3) := by decide +kernel
theorem dX2_move_68 : decode cX2_move 68 = .ok (.goto (-65), 3) := by decide +kernel
theorem dX2_move_71 : decode cX2_move 71 = .ok (.return_, 1) := by decide +kernel
theorem dX3_init_0 : decode cX3_init 0 = .ok (.aload_n 0, 1) := by decide +kernel
theorem dX3_init_1 : decode cX3_init 1 = .ok (.invokespecial 3, 3) := by decide +kernel
theorem dX3_init_4 : decode cX3_init 4 = .ok (.aload_n 0, 1) := by decide +kernel
theorem dX3_init_5 : decode cX3_init 5 = .ok (.bipush 60, 2) := by decide +kernel
theorem dX3_init_7 : decode cX3_init 7 = .ok (.newarray .int, 2) := by decide +kernel
theorem dX3_init_9 : decode cX3_init 9 = .ok (.putfield 9, 3) := by decide +kernel
theorem dX3_init_12 : decode cX3_init 12 = .ok (.aload_n 0, 1) := by decide +kernel
theorem dX3_init_13 : decode cX3_init 13 = .ok (.bipush 60, 2) := by decide +kernel
theorem dX3_init_15 : decode cX3_init 15 = .ok (.newarray .int, 2) := by decide +kernel
theorem dX3_init_17 : decode cX3_init 17 = .ok (.putfield 15, 3) := by decide +kernel
theorem dX3_init_20 : decode cX3_init 20 = .ok (.aload_n 0, 1) := by decide +kernel
theorem dX3_init_21 : decode cX3_init 21 = .ok (.bipush 60, 2) := by decide +kernel
theorem dX3_init_23 : decode cX3_init 23 = .ok (.newarray .int, 2) := by decide +kernel
theorem dX3_init_25 : decode cX3_init 25 = .ok (.putfield 18, 3) := by decide +kernel
theorem dX3_init_28 : decode cX3_init 28 = .ok (.return_, 1) := by decide +kernel
theorem dX3_gather_0 : decode cX3_gather 0 = .ok (.aload_n 0, 1) := by decide +kernel
theorem dX3_gather_1 : decode cX3_gather 1 = .ok (.iconst 0, 1) := by decide +kernel
theorem dX3_gather_2 : decode cX3_gather 2 = .ok (.putfield 21, 3) := by decide +kernel
theorem dX3_gather_5 : decode cX3_gather 5 = .ok (.iconst 0, 1) := by decide +kernel
theorem dX3_gather_6 : decode cX3_gather 6 = .ok (.istore 4, 2) := by decide +kernel
theorem dX3_gather_8 : decode cX3_gather 8 = .ok (.iload 4, 2) := by decide +kernel
theorem dX3_gather_10 : decode cX3_gather 10 = .ok (.sipush 1000, 3) := by decide +kernel
theorem dX3_gather_13 : decode cX3_gather 13 = .ok (.if_icmp .ge 88, 3) := by decide +kernel
theorem dX3_gather_16 : decode cX3_gather 16 = .ok (.aload_n 0, 1) := by decide +kernel
theorem dX3_gather_17 : decode cX3_gather 17 = .ok (.getfield 21, 3) := by decide +kernel
theorem dX3_gather_20 : decode cX3_gather 20 = .ok (.bipush 60, 2) := by decide +kernel
theorem dX3_gather_22 : decode cX3_gather 22 = .ok (.if_icmp .ge 79, 3) := by decide +kernel
theorem dX3_gather_25 : decode cX3_gather 25 = .ok (.aload_n 1, 1) := by decide +kernel
theorem dX3_gather_26 : decode cX3_gather 26 = .ok (.getfield 25, 3) := by decide +kernel
theorem dX3_gather_29 : decode cX3_gather 29 = .ok (.iload 4, 2) := by decide +kernel
theorem dX3_gather_31 : decode cX3_gather 31 = .ok (.iaload, 1) := by decide +kernel
theorem dX3_gather_32 : decode cX3_gather 32 = .ok (.ifCond .le 63, 3) := by decide +kernel
theorem dX3_gather_35 : decode cX3_gather 35 = .ok (.aload_n 0, 1) := by decide +kernel
theorem dX3_gather_36 : decode cX3_gather 36 = .ok (.getfield 9, 3) := by decide +kernel
theorem dX3_gather_39 : decode cX3_gather 39 = .ok (.aload_n 0, 1) := by decide +kernel
theorem dX3_gather_40 : decode cX3_gather 40 = .ok (.getfield 21, 3) := by decide +kernel
theorem dX3_gather_43 : decode cX3_gather 43 = .ok (.iload 4, 2) := by decide +kernel
theorem dX3_gather_45 : decode cX3_gather 45 = .ok (.iastore, 1) := by decide +kernel
theorem dX3_gather_46 : decode cX3_gather 46 = .ok (.aload_n 0, 1) := by decide +kernel
theorem dX3_gather_47 : decode cX3_gather 47 = .ok (.getfield 15, 3) := by decide +kernel
theorem dX3_gather_50 : decode cX3_gather 50 = .ok (.aload_n 0, 1) := by decide +kernel
theorem dX3_gather_51 : decode cX3_gather 51 = .ok (.getfield 21, 3) := by decide +kernel
theorem dX3_gather_54 : decode cX3_gather 54 = .ok (.aload_n 1, 1) := by decide +kernel
theorem dX3_gather_55 : decode cX3_gather 55 = .ok (.getfield 25, 3) := by decide +kernel
theorem dX3_gather_58 : decode cX3_gather 58 = .ok (.iload 4, 2) := by decide +kernel
theorem dX3_gather_60 : decode cX3_gather 60 = .ok (.iaload, 1) := by decide +kernel
theorem dX3_gather_61 : decode cX3_gather 61 = .ok (.iastore, 1) := by decide +kernel
theorem dX3_gather_62 : decode cX3_gather 62 = .ok (.aload_n 0, 1) := by decide +kernel
theorem dX3_gather_63 : decode cX3_gather 63 = .ok (.getfield 18, 3) := by decide +kernel
theorem dX3_gather_66 : decode cX3_gather 66 = .ok (.aload_n 0, 1) := by decide +kernel
theorem dX3_gather_67 : decode cX3_gather 67 = .ok (.getfield 21, 3) := by decide +kernel
theorem dX3_gather_70 : decode cX3_gather 70 = .ok (.aload_n 1, 1) := by decide +kernel
theorem dX3_gather_71 : decode cX3_gather 71 = .ok (.getfield 25, 3) := by decide +kernel
theorem dX3_gather_74 : decode cX3_gather 74 = .ok (.iload 4, 2) := by decide +kernel
theorem dX3_gather_76 : decode cX3_gather 76 = .ok (.iaload, 1) := by decide +kernel
theorem dX3_gather_77 : decode cX3_gather 77 = .ok (.aload_n 2, 1) := by decide +kernel
theorem dX3_gather_78 : decode cX3_gather 78 = .ok (.iload 4, 2) := by decide +kernel
theorem dX3_gather_80 : decode cX3_gather 80 = .ok (.iload_n 3, 1) := by decide +kernel
theorem dX3_gather_81 : decode cX3_gather 81 = .ok (.invokestatic 28, 3) := by decide +kernel
theorem dX3_gather_84 : decode cX3_gather 84 = .ok (.iastore, 1) := by decide +kernel
theorem dX3_gather_85 : decode cX3_gather 85 = .ok (.aload_n 0, 1) := by decide +kernel
theorem dX3_gather_86 : decode cX3_gather 86 = .ok (.dup, 1) := by decide +kernel
theorem dX3_gather_87 : decode cX3_gather 87 = .ok (.getfield 21, 3) := by decide +kernel
theorem dX3_gather_90 : decode cX3_gather 90 = .ok (.iconst 1, 1) := by decide +kernel
theorem dX3_gather_91 : decode cX3_gather 91 = .ok (.iadd, 1) := by decide +kernel
theorem dX3_gather_92 : decode cX3_gather 92 = .ok (.putfield 21, 3) := by decide +kernel
theorem dX3_gather_95 : decode cX3_gather 95 = .ok (.iinc 4 1, 3) := by decide +kernel
theorem dX3_gather_98 : decode cX3_gather 98 = .ok (.goto (-90), 3) := by decide +kernel
theorem dX3_gather_101 : decode cX3_gather 101 = .ok (.return_, 1) := by decide +kernel
theorem dX3_badOf_0 : decode cX3_badOf 0 = .ok (.aload_n 1, 1) := by decide +kernel
theorem dX3_badOf_1 : decode cX3_badOf 1 = .ok (.iload_n 2, 1) := by decide +kernel
theorem dX3_badOf_2 : decode cX3_badOf 2 = .ok (.invokevirtual 32, 3) := by decide +kernel
theorem dX3_badOf_5 : decode cX3_badOf 5 = .ok (.istore 4, 2) := by decide +kernel
theorem dX3_badOf_7 : decode cX3_badOf 7 = .ok (.aload_n 1, 1) := by decide +kernel
theorem dX3_badOf_8 : decode cX3_badOf 8 = .ok (.iload 4, 2) := by decide +kernel
theorem dX3_badOf_10 : decode cX3_badOf 10 = .ok (.invokevirtual 38, 3) := by decide +kernel
theorem dX3_badOf_13 : decode cX3_badOf 13 = .ok (.ifCond .eq 17, 3) := by decide +kernel
theorem dX3_badOf_16 : decode cX3_badOf 16 = .ok (.ldc2_w 42, 3) := by decide +kernel
theorem dX3_badOf_19 : decode cX3_badOf 19 = .ok (.aload_n 1, 1) := by decide +kernel
theorem dX3_badOf_20 : decode cX3_badOf 20 = .ok (.iload 4, 2) := by decide +kernel
theorem dX3_badOf_22 : decode cX3_badOf 22 = .ok (.invokevirtual 44, 3) := by decide +kernel
theorem dX3_badOf_25 : decode cX3_badOf 25 = .ok (.i2l, 1) := by decide +kernel
theorem dX3_badOf_26 : decode cX3_badOf 26 = .ok (.lmul, 1) := by decide +kernel
theorem dX3_badOf_27 : decode cX3_badOf 27 = .ok (.goto 4, 3) := by decide +kernel
theorem dX3_badOf_30 : decode cX3_badOf 30 = .ok (.lconst 0, 1) := by decide +kernel
theorem dX3_badOf_31 : decode cX3_badOf 31 = .ok (.lstore 5, 2) := by decide +kernel
theorem dX3_badOf_33 : decode cX3_badOf 33 = .ok (.lload 5, 2) := by decide +kernel
theorem dX3_badOf_35 : decode cX3_badOf 35 = .ok (.lconst 0, 1) := by decide +kernel
theorem dX3_badOf_36 : decode cX3_badOf 36 = .ok (.lcmp, 1) := by decide +kernel
theorem dX3_badOf_37 : decode cX3_badOf 37 = .ok (.ifCond .ne 5, 3) := by decide +kernel
theorem dX3_badOf_40 : decode cX3_badOf 40 = .ok (.iconst 0, 1) := by decide +kernel
theorem dX3_badOf_41 : decode cX3_badOf 41 = .ok (.ireturn, 1) := by decide +kernel
theorem dX3_badOf_42 : decode cX3_badOf 42 = .ok (.iload_n 0, 1) := by decide +kernel
theorem dX3_badOf_43 : decode cX3_badOf 43 = .ok (.i2l, 1) := by decide +kernel
theorem dX3_badOf_44 : decode cX3_badOf 44 = .ok (.iload_n 3, 1) := by decide +kernel
theorem dX3_badOf_45 : decode cX3_badOf 45 = .ok (.i2l, 1) := by decide +kernel
theorem dX3_badOf_46 : decode cX3_badOf 46 = .ok (.lmul, 1) := by decide +kernel
theorem dX3_badOf_47 : decode cX3_badOf 47 = .ok (.aload_n 1, 1) := by decide +kernel
theorem dX3_badOf_48 : decode cX3_badOf 48 = .ok (.getfield 47, 3) := by decide +kernel
theorem dX3_badOf_51 : decode cX3_badOf 51 = .ok (.iload 4, 2) := by decide +kernel
theorem dX3_badOf_53 : decode cX3_badOf 53 = .ok (.iaload, 1) := by decide +kernel
theorem dX3_badOf_54 : decode cX3_badOf 54 = .ok (.i2l, 1) := by decide +kernel
theorem dX3_badOf_55 : decode cX3_badOf 55 = .ok (.lmul, 1) := by decide +kernel
theorem dX3_badOf_56 : decode cX3_badOf 56 = .ok (.lload 5, 2) := by decide +kernel
theorem dX3_badOf_58 : decode cX3_badOf 58 = .ok (.ldiv, 1) := by decide +kernel
theorem dX3_badOf_59 : decode cX3_badOf 59 = .ok (.iload_n 0, 1) := by decide +kernel
theorem dX3_badOf_60 : decode cX3_badOf 60 = .ok (.i2l, 1) := by decide +kernel
theorem dX3_badOf_61 : decode cX3_badOf 61 = .ok (.invokestatic 48, 3) := by decide +kernel
theorem dX3_badOf_64 : decode cX3_badOf 64 = .ok (.l2i, 1) := by decide +kernel
theorem dX3_badOf_65 : decode cX3_badOf 65 = .ok (.ireturn, 1) := by decide +kernel
theorem dX3_move_0 : decode cX3_move 0 = .ok (.iconst 0, 1) := by decide +kernel
theorem dX3_move_1 : decode cX3_move 1 = .ok (.istore_n 3, 1) := by decide +kernel
theorem dX3_move_2 : decode cX3_move 2 = .ok (.iload_n 3, 1) := by decide +kernel
theorem dX3_move_3 : decode cX3_move 3 = .ok (.aload_n 0, 1) := by decide +kernel
theorem dX3_move_4 : decode cX3_move 4 = .ok (.getfield 21, 3) := by decide +kernel
theorem dX3_move_7 : decode cX3_move 7 = .ok (.if_icmp .ge 64, 3) := by decide +kernel
theorem dX3_move_10 : decode cX3_move 10 = .ok (.aload_n 1, 1) := by decide +kernel
theorem dX3_move_11 : decode cX3_move 11 = .ok (.getfield 25, 3) := by decide +kernel
theorem dX3_move_14 : decode cX3_move 14 = .ok (.aload_n 0, 1) := by decide +kernel
theorem dX3_move_15 : decode cX3_move 15 = .ok (.getfield 9, 3) := by decide +kernel
theorem dX3_move_18 : decode cX3_move 18 = .ok (.iload_n 3, 1) := by decide +kernel
theorem dX3_move_19 : decode cX3_move 19 = .ok (.iaload, 1) := by decide +kernel
theorem dX3_move_20 : decode cX3_move 20 = .ok (.dup2, 1) := by decide +kernel
theorem dX3_move_21 : decode cX3_move 21 = .ok (.iaload, 1) := by decide +kernel
theorem dX3_move_22 : decode cX3_move 22 = .ok (.iload_n 2, 1) := by decide +kernel
theorem dX3_move_23 : decode cX3_move 23 = .ok (.aload_n 0, 1) := by decide +kernel
theorem dX3_move_24 : decode cX3_move 24 = .ok (.getfield 15, 3) := by decide +kernel
theorem dX3_move_27 : decode cX3_move 27 = .ok (.iload_n 3, 1) := by decide +kernel
theorem dX3_move_28 : decode cX3_move 28 = .ok (.iaload, 1) := by decide +kernel
theorem dX3_move_29 : decode cX3_move 29 = .ok (.imul, 1) := by decide +kernel
theorem dX3_move_30 : decode cX3_move 30 = .ok (.isub, 1) := by decide +kernel
theorem dX3_move_31 : decode cX3_move 31 = .ok (.iastore, 1) := by decide +kernel
theorem dX3_move_32 : decode cX3_move 32 = .ok (.aload_n 1, 1) := by decide +kernel
theorem dX3_move_33 : decode cX3_move 33 = .ok (.aload_n 0, 1) := by decide +kernel
theorem dX3_move_34 : decode cX3_move 34 = .ok (.getfield 9, 3) := by decide +kernel
theorem dX3_move_37 : decode cX3_move 37 = .ok (.iload_n 3, 1) := by decide +kernel
theorem dX3_move_38 : decode cX3_move 38 = .ok (.iaload, 1) := by decide +kernel
theorem dX3_move_39 : decode cX3_move 39 = .ok (.iload_n 2, 1) := by decide +kernel
theorem dX3_move_40 : decode cX3_move 40 = .ok (.aload_n 0, 1) := by decide +kernel
theorem dX3_move_41 : decode cX3_move 41 = .ok (.getfield 15, 3) := by decide +kernel
theorem dX3_move_44 : decode cX3_move 44 = .ok (.iload_n 3, 1) := by decide +kernel
theorem dX3_move_45 : decode cX3_move 45 = .ok (.iaload, 1) := by decide +kernel
theorem dX3_move_46 : decode cX3_move 46 = .ok (.aload_n 0, 1) := by decide +kernel
theorem dX3_move_47 : decode cX3_move 47 = .ok (.getfield 18, 3) := by decide +kernel
theorem dX3_move_50 : decode cX3_move 50 = .ok (.iload_n 3, 1) := by decide +kernel
theorem dX3_move_51 : decode cX3_move 51 = .ok (.iaload, 1) := by decide +kernel
theorem dX3_move_52 : decode cX3_move 52 = .ok (.isub, 1) := by decide +kernel
theorem dX3_move_53 : decode cX3_move 53 = .ok (.imul, 1) := by decide +kernel
theorem dX3_move_54 : decode cX3_move 54 = .ok (.iload_n 2, 1) := by decide +kernel
theorem dX3_move_55 : decode cX3_move 55 = .ok (.aload_n 0, 1) := by decide +kernel
theorem dX3_move_56 : decode cX3_move 56 = .ok (.getfield 18, 3) := by decide +kernel
theorem dX3_move_59 : decode cX3_move 59 = .ok (.iload_n 3, 1) := by decide +kernel
theorem dX3_move_60 : decode cX3_move 60 = .ok (.iaload, 1) := by decide +kernel
theorem dX3_move_61 : decode cX3_move 61 = .ok (.imul, 1) := by decide +kernel
theorem dX3_move_62 : decode cX3_move 62 = .ok (.invokevirtual 54, 3) := by decide +kernel
theorem dX3_move_65 : decode cX3_move 65 = .ok (.iinc 3 1, 3) := by decide +kernel
theorem dX3_move_68 : decode cX3_move 68 = .ok (.goto (-66), 3) := by decide +kernel
theorem dX3_move_71 : decode cX3_move 71 = .ok (.return_, 1) := by decide +kernel
theorem dX4_init_0 : decode cX4_init 0 = .ok (.aload_n 0, 1) := by decide +kernel
theorem dX4_init_1 : decode cX4_init 1 = .ok (.invokespecial 3, 3) := by decide +kernel
theorem dX4_init_4 : decode cX4_init 4 = .ok (.aload_n 0, 1) := by decide +kernel
theorem dX4_init_5 : decode cX4_init 5 = .ok (.bipush 60, 2) := by decide +kernel
theorem dX4_init_7 : decode cX4_init 7 = .ok (.newarray .int, 2) := by decide +kernel
theorem dX4_init_9 : decode cX4_init 9 = .ok (.putfield 9, 3) := by decide +kernel
theorem dX4_init_12 : decode cX4_init 12 = .ok (.aload_n 0, 1) := by decide +kernel
theorem dX4_init_13 : decode cX4_init 13 = .ok (.bipush 60, 2) := by decide +kernel
theorem dX4_init_15 : decode cX4_init 15 = .ok (.newarray .int, 2) := by decide +kernel
theorem dX4_init_17 : decode cX4_init 17 = .ok (.putfield 15, 3) := by decide +kernel
theorem dX4_init_20 : decode cX4_init 20 = .ok (.aload_n 0, 1) := by decide +kernel
theorem dX4_init_21 : decode cX4_init 21 = .ok (.bipush 60, 2) := by decide +kernel
theorem dX4_init_23 : decode cX4_init 23 = .ok (.newarray .int, 2) := by decide +kernel
theorem dX4_init_25 : decode cX4_init 25 = .ok (.putfield 18, 3) := by decide +kernel
theorem dX4_init_28 : decode cX4_init 28 = .ok (.aload_n 0, 1) := by decide +kernel
theorem dX4_init_29 : decode cX4_init 29 = .ok (.bipush 60, 2) := by decide +kernel
theorem dX4_init_31 : decode cX4_init 31 = .ok (.newarray .int, 2) := by decide +kernel
theorem dX4_init_33 : decode cX4_init 33 = .ok (.putfield 21, 3) := by decide +kernel
theorem dX4_init_36 : decode cX4_init 36 = .ok (.aload_n 0, 1) := by decide +kernel
theorem dX4_init_37 : decode cX4_init 37 = .ok (.bipush 60, 2) := by decide +kernel
theorem dX4_init_39 : decode cX4_init 39 = .ok (.newarray .int, 2) := by decide +kernel
theorem dX4_init_41 : decode cX4_init 41 = .ok (.putfield 24, 3) := by decide +kernel
theorem dX4_init_44 : decode cX4_init 44 = .ok (.return_, 1) := by decide +kernel
theorem dX4_has_0 : decode cX4_has 0 = .ok (.iload_n 1, 1) := by decide +kernel
theorem dX4_has_1 : decode cX4_has 1 = .ok (.ifCond .lt 15, 3) := by decide +kernel
theorem dX4_has_4 : decode cX4_has 4 = .ok (.iload_n 1, 1) := by decide +kernel
theorem dX4_has_5 : decode cX4_has 5 = .ok (.aload_n 0, 1) := by decide +kernel
theorem dX4_has_6 : decode cX4_has 6 = .ok (.getfield 27, 3) := by decide +kernel
theorem dX4_has_9 : decode cX4_has 9 = .ok (.if_icmp .ge 7, 3) := by decide +kernel
theorem dX4_has_12 : decode cX4_has 12 = .ok (.iconst 1, 1) := by decide +kernel
theorem dX4_has_13 : decode cX4_has 13 = .ok (.goto 4, 3) := by decide +kernel
theorem dX4_has_16 : decode cX4_has 16 = .ok (.iconst 0, 1) := by decide +kernel
theorem dX4_has_17 : decode cX4_has 17 = .ok (.ireturn, 1) := by decide +kernel
theorem dX4_cases_0 : decode cX4_cases 0 = .ok (.aload_n 0, 1) := by decide +kernel
theorem dX4_cases_1 : decode cX4_cases 1 = .ok (.getfield 18, 3) := by decide +kernel
theorem dX4_cases_4 : decode cX4_cases 4 = .ok (.iload_n 1, 1) := by decide +kernel
theorem dX4_cases_5 : decode cX4_cases 5 = .ok (.iaload, 1) := by decide +kernel
theorem dX4_cases_6 : decode cX4_cases 6 = .ok (.aload_n 0, 1) := by decide +kernel
theorem dX4_cases_7 : decode cX4_cases 7 = .ok (.getfield 21, 3) := by decide +kernel
theorem dX4_cases_10 : decode cX4_cases 10 = .ok (.iload_n 1, 1) := by decide +kernel
theorem dX4_cases_11 : decode cX4_cases 11 = .ok (.iaload, 1) := by decide +kernel
theorem dX4_cases_12 : decode cX4_cases 12 = .ok (.iadd, 1) := by decide +kernel
theorem dX4_cases_13 : decode cX4_cases 13 = .ok (.ireturn, 1) := by decide +kernel
theorem dX4_fillPure_0 : decode cX4_fillPure 0 = .ok (.aload_n 0, 1) := by decide +kernel
theorem dX4_fillPure_1 : decode cX4_fillPure 1 = .ok (.iconst 0, 1) := by decide +kernel
theorem dX4_fillPure_2 : decode cX4_fillPure 2 = .ok (.putfield 27, 3) := by decide +kernel
theorem dX4_fillPure_5 : decode cX4_fillPure 5 = .ok (.iconst 0, 1) := by decide +kernel
theorem dX4_fillPure_6 : decode cX4_fillPure 6 = .ok (.istore_n 2, 1) := by decide +kernel
theorem dX4_fillPure_7 : decode cX4_fillPure 7 = .ok (.iload_n 2, 1) := by decide +kernel
theorem dX4_fillPure_8 : decode cX4_fillPure 8 = .ok (.aload_n 1, 1) := by decide +kernel
theorem dX4_fillPure_9 : decode cX4_fillPure 9 = .ok (.getfield 31, 3) := by decide +kernel
theorem dX4_fillPure_12 : decode cX4_fillPure 12 = .ok (.if_icmp .ge 122, 3) := by decide +kernel
theorem dX4_fillPure_15 : decode cX4_fillPure 15 = .ok (.aload_n 0, 1) := by decide +kernel
theorem dX4_fillPure_16 : decode cX4_fillPure 16 = .ok (.getfield 9, 3) := by decide +kernel
theorem dX4_fillPure_19 : decode cX4_fillPure 19 = .ok (.aload_n 0, 1) := by decide +kernel
theorem dX4_fillPure_20 : decode cX4_fillPure 20 = .ok (.getfield 27, 3) := by decide +kernel
theorem dX4_fillPure_23 : decode cX4_fillPure 23 = .ok (.aload_n 1, 1) := by decide +kernel
theorem dX4_fillPure_24 : decode cX4_fillPure 24 = .ok (.getfield 34, 3) := by decide +kernel
theorem dX4_fillPure_27 : decode cX4_fillPure 27 = .ok (.iload_n 2, 1) := by decide +kernel
theorem dX4_fillPure_28 : decode cX4_fillPure 28 = .ok (.iaload, 1) := by decide +kernel
theorem dX4_fillPure_29 : decode cX4_fillPure 29 = .ok (.iastore, 1) := by decide +kernel
theorem dX4_fillPure_30 : decode cX4_fillPure 30 = .ok (.aload_n 0, 1) := by decide +kernel
theorem dX4_fillPure_31 : decode cX4_fillPure 31 = .ok (.getfield 15, 3) := by decide +kernel
theorem dX4_fillPure_34 : decode cX4_fillPure 34 = .ok (.aload_n 0, 1) := by decide +kernel
theorem dX4_fillPure_35 : decode cX4_fillPure 35 = .ok (.getfield 27, 3) := by decide +kernel
theorem dX4_fillPure_38 : decode cX4_fillPure 38 = .ok (.aload_n 1, 1) := by decide +kernel
theorem dX4_fillPure_39 : decode cX4_fillPure 39 = .ok (.getfield 34, 3) := by decide +kernel
theorem dX4_fillPure_42 : decode cX4_fillPure 42 = .ok (.iload_n 2, 1) := by decide +kernel
theorem dX4_fillPure_43 : decode cX4_fillPure 43 = .ok (.iaload, 1) := by decide +kernel
theorem dX4_fillPure_44 : decode cX4_fillPure 44 = .ok (.iastore, 1) := by decide +kernel
theorem dX4_fillPure_45 : decode cX4_fillPure 45 = .ok (.aload_n 0, 1) := by decide +kernel
theorem dX4_fillPure_46 : decode cX4_fillPure 46 = .ok (.getfield 18, 3) := by decide +kernel
theorem dX4_fillPure_49 : decode cX4_fillPure 49 = .ok (.aload_n 0, 1) := by decide +kernel
theorem dX4_fillPure_50 : decode cX4_fillPure 50 = .ok (.getfield 27, 3) := by decide +kernel
theorem dX4_fillPure_53 : decode cX4_fillPure 53 = .ok (.aload_n 1, 1) := by decide +kernel
theorem dX4_fillPure_54 : decode cX4_fillPure 54 = .ok (.getfield 37, 3) := by decide +kernel
theorem dX4_fillPure_57 : decode cX4_fillPure 57 = .ok (.iload_n 2, 1) := by decide +kernel
theorem dX4_fillPure_58 : decode cX4_fillPure 58 = .ok (.iaload, 1) := by decide +kernel
theorem dX4_fillPure_59 : decode cX4_fillPure 59 = .ok (.iastore, 1) := by decide +kernel
theorem dX4_fillPure_60 : decode cX4_fillPure 60 = .ok (.aload_n 0, 1) := by decide +kernel
theorem dX4_fillPure_61 : decode cX4_fillPure 61 = .ok (.getfield 21, 3) := by decide +kernel
theorem dX4_fillPure_64 : decode cX4_fillPure 64 = .ok (.aload_n 0, 1) := by decide +kernel
theorem dX4_fillPure_65 : decode cX4_fillPure 65 = .ok (.getfield 27, 3) := by decide +kernel
theorem dX4_fillPure_68 : decode cX4_fillPure 68 = .ok (.aload_n 1, 1) := by decide +kernel
theorem dX4_fillPure_69 : decode cX4_fillPure 69 = .ok (.getfield 38, 3) := by decide +kernel
theorem dX4_fillPure_72 : decode cX4_fillPure 72 = .ok (.iload_n 2, 1) := by decide +kernel
theorem dX4_fillPure_73 : decode cX4_fillPure 73 = .ok (.iaload, 1) := by decide +kernel
theorem dX4_fillPure_74 : decode cX4_fillPure 74 = .ok (.iastore, 1) := by decide +kernel
theorem dX4_fillPure_75 : decode cX4_fillPure 75 = .ok (.aload_n 0, 1) := by decide +kernel
theorem dX4_fillPure_76 : decode cX4_fillPure 76 = .ok (.getfield 24, 3) := by decide +kernel
theorem dX4_fillPure_79 : decode cX4_fillPure 79 = .ok (.aload_n 0, 1) := by decide +kernel
theorem dX4_fillPure_80 : decode cX4_fillPure 80 = .ok (.getfield 27, 3) := by decide +kernel
theorem dX4_fillPure_83 : decode cX4_fillPure 83 = .ok (.iconst 1, 1) := by decide +kernel
theorem dX4_fillPure_84 : decode cX4_fillPure 84 = .ok (.iastore, 1) := by decide +kernel
theorem dX4_fillPure_85 : decode cX4_fillPure 85 = .ok (.aload_n 0, 1) := by decide +kernel
theorem dX4_fillPure_86 : decode cX4_fillPure 86 = .ok (.dup, 1) := by decide +kernel
theorem dX4_fillPure_87 : decode cX4_fillPure 87 = .ok (.getfield 27, 3) := by decide +kernel
theorem dX4_fillPure_90 : decode cX4_fillPure 90 = .ok (.iconst 1, 1) := by decide +kernel
theorem dX4_fillPure_91 : decode cX4_fillPure 91 = .ok (.iadd, 1) := by decide +kernel
theorem dX4_fillPure_92 : decode cX4_fillPure 92 = .ok (.putfield 27, 3) := by decide +kernel
theorem dX4_fillPure_95 : decode cX4_fillPure 95 = .ok (.aload_n 0, 1) := by decide +kernel
theorem dX4_fillPure_96 : decode cX4_fillPure 96 = .ok (.getfield 27, 3) := by decide +kernel
theorem dX4_fillPure_99 : decode cX4_fillPure 99 = .ok (.istore_n 3, 1) := by decide +kernel
theorem dX4_fillPure_100 : decode cX4_fillPure 100 = .ok (.iload_n 3, 1) := by decide +kernel
theorem dX4_fillPure_101 : decode cX4_fillPure 101 = .ok (.iconst 2, 1) := by decide +kernel
theorem dX4_fillPure_102 : decode cX4_fillPure 102 = .ok (.if_icmp .lt 26, 3) := by decide +kernel
theorem dX4_fillPure_105 : decode cX4_fillPure 105 = .ok (.aload_n 0, 1) := by decide +kernel
theorem dX4_fillPure_106 : decode cX4_fillPure 106 = .ok (.iload_n 3, 1) := by decide +kernel
theorem dX4_fillPure_107 : decode cX4_fillPure 107 = .ok (.iconst 2, 1) := by decide +kernel
theorem dX4_fillPure_108 : decode cX4_fillPure 108 = .ok (.isub, 1) := by decide +kernel
theorem dX4_fillPure_109 : decode cX4_fillPure 109 = .ok (.invokevirtual 39, 3) := by decide +kernel
theorem dX4_fillPure_112 : decode cX4_fillPure 112 = .ok (.ifCond .ne 16, 3) := by decide +kernel
theorem dX4_fillPure_115 : decode cX4_fillPure 115 = .ok (.aload_n 0, 1) := by decide +kernel
theorem dX4_fillPure_116 : decode cX4_fillPure 116 = .ok (.iload_n 3, 1) := by decide +kernel
theorem dX4_fillPure_117 : decode cX4_fillPure 117 = .ok (.iconst 2, 1) := by decide +kernel
theorem dX4_fillPure_118 : decode cX4_fillPure 118 = .ok (.isub, 1) := by decide +kernel
theorem dX4_fillPure_119 : decode cX4_fillPure 119 = .ok (.invokevirtual 43, 3) := by decide +kernel
theorem dX4_fillPure_122 : decode cX4_fillPure 122 = .ok (.iinc 3 (-1), 3) := by decide +kernel
theorem dX4_fillPure_125 : decode cX4_fillPure 125 = .ok (.goto (-25), 3) := by decide +kernel
theorem dX4_fillPure_128 : decode cX4_fillPure 128 = .ok (.iinc 2 1, 3) := by decide +kernel
theorem dX4_fillPure_131 : decode cX4_fillPure 131 = .ok (.goto (-124), 3) := by decide +kernel
theorem dX4_fillPure_134 : decode cX4_fillPure 134 = .ok (.return_, 1) := by decide +kernel
theorem dX4_copy_0 : decode cX4_copy 0 = .ok (.aload_n 0, 1) := by decide +kernel
theorem dX4_copy_1 : decode cX4_copy 1 = .ok (.aload_n 1, 1) := by decide +kernel
theorem dX4_copy_2 : decode cX4_copy 2 = .ok (.getfield 27, 3) := by decide +kernel
theorem dX4_copy_5 : decode cX4_copy 5 = .ok (.putfield 27, 3) := by decide +kernel
theorem dX4_copy_8 : decode cX4_copy 8 = .ok (.aload_n 1, 1) := by decide +kernel
theorem dX4_copy_9 : decode cX4_copy 9 = .ok (.getfield 9, 3) := by decide +kernel
theorem dX4_copy_12 : decode cX4_copy 12 = .ok (.iconst 0, 1) := by decide +kernel
theorem dX4_copy_13 : decode cX4_copy 13 = .ok (.aload_n 0, 1) := by decide +kernel
theorem dX4_copy_14 : decode cX4_copy 14 = .ok (.getfield 9, 3) := by decide +kernel
theorem dX4_copy_17 : decode cX4_copy 17 = .ok (.iconst 0, 1) := by decide +kernel
theorem dX4_copy_18 : decode cX4_copy 18 = .ok (.aload_n 0, 1) := by decide +kernel
theorem dX4_copy_19 : decode cX4_copy 19 = .ok (.getfield 27, 3) := by decide +kernel
theorem dX4_copy_22 : decode cX4_copy 22 = .ok (.invokestatic 47, 3) := by decide +kernel
theorem dX4_copy_25 : decode cX4_copy 25 = .ok (.aload_n 1, 1) := by decide +kernel
theorem dX4_copy_26 : decode cX4_copy 26 = .ok (.getfield 15, 3) := by decide +kernel
theorem dX4_copy_29 : decode cX4_copy 29 = .ok (.iconst 0, 1) := by decide +kernel
theorem dX4_copy_30 : decode cX4_copy 30 = .ok (.aload_n 0, 1) := by decide +kernel
theorem dX4_copy_31 : decode cX4_copy 31 = .ok (.getfield 15, 3) := by decide +kernel
theorem dX4_copy_34 : decode cX4_copy 34 = .ok (.iconst 0, 1) := by decide +kernel
theorem dX4_copy_35 : decode cX4_copy 35 = .ok (.aload_n 0, 1) := by decide +kernel
theorem dX4_copy_36 : decode cX4_copy 36 = .ok (.getfield 27, 3) := by decide +kernel
theorem dX4_copy_39 : decode cX4_copy 39 = .ok (.invokestatic 47, 3) := by decide +kernel
theorem dX4_copy_42 : decode cX4_copy 42 = .ok (.aload_n 1, 1) := by decide +kernel
theorem dX4_copy_43 : decode cX4_copy 43 = .ok (.getfield 18, 3) := by decide +kernel
theorem dX4_copy_46 : decode cX4_copy 46 = .ok (.iconst 0, 1) := by decide +kernel
theorem dX4_copy_47 : decode cX4_copy 47 = .ok (.aload_n 0, 1) := by decide +kernel
theorem dX4_copy_48 : decode cX4_copy 48 = .ok (.getfield 18, 3) := by decide +kernel
theorem dX4_copy_51 : decode cX4_copy 51 = .ok (.iconst 0, 1) := by decide +kernel
theorem dX4_copy_52 : decode cX4_copy 52 = .ok (.aload_n 0, 1) := by decide +kernel
theorem dX4_copy_53 : decode cX4_copy 53 = .ok (.getfield 27, 3) := by decide +kernel
theorem dX4_copy_56 : decode cX4_copy 56 = .ok (.invokestatic 47, 3) := by decide +kernel
theorem dX4_copy_59 : decode cX4_copy 59 = .ok (.aload_n 1, 1) := by decide +kernel
theorem dX4_copy_60 : decode cX4_copy 60 = .ok (.getfield 21, 3) := by decide +kernel
theorem dX4_copy_63 : decode cX4_copy 63 = .ok (.iconst 0, 1) := by decide +kernel
theorem dX4_copy_64 : decode cX4_copy 64 = .ok (.aload_n 0, 1) := by decide +kernel
theorem dX4_copy_65 : decode cX4_copy 65 = .ok (.getfield 21, 3) := by decide +kernel
theorem dX4_copy_68 : decode cX4_copy 68 = .ok (.iconst 0, 1) := by decide +kernel
theorem dX4_copy_69 : decode cX4_copy 69 = .ok (.aload_n 0, 1) := by decide +kernel
theorem dX4_copy_70 : decode cX4_copy 70 = .ok (.getfield 27, 3) := by decide +kernel
theorem dX4_copy_73 : decode cX4_copy 73 = .ok (.invokestatic 47, 3) := by decide +kernel
theorem dX4_copy_76 : decode cX4_copy 76 = .ok (.aload_n 1, 1) := by decide +kernel
theorem dX4_copy_77 : decode cX4_copy 77 = .ok (.getfield 24, 3) := by decide +kernel
theorem dX4_copy_80 : decode cX4_copy 80 = .ok (.iconst 0, 1) := by decide +kernel
theorem dX4_copy_81 : decode cX4_copy 81 = .ok (.aload_n 0, 1) := by decide +kernel
theorem dX4_copy_82 : decode cX4_copy 82 = .ok (.getfield 24, 3) := by decide +kernel
theorem dX4_copy_85 : decode cX4_copy 85 = .ok (.iconst 0, 1) := by decide +kernel
theorem dX4_copy_86 : decode cX4_copy 86 = .ok (.aload_n 0, 1) := by decide +kernel
theorem dX4_copy_87 : decode cX4_copy 87 = .ok (.getfield 27, 3) := by decide +kernel
theorem dX4_copy_90 : decode cX4_copy 90 = .ok (.invokestatic 47, 3) := by decide +kernel
theorem dX4_copy_93 : decode cX4_copy 93 = .ok (.return_, 1) := by decide +kernel
theorem dX4_joinSmall_0 : decode cX4_joinSmall 0 = .ok (.aload_n 0, 1) := by decide +kernel
theorem dX4_joinSmall_1 : decode cX4_joinSmall 1 = .ok (.getfield 27, 3) := by decide +kernel
theorem dX4_joinSmall_4 : decode cX4_joinSmall 4 = .ok (.istore_n 2, 1) := by decide +kernel
theorem dX4_joinSmall_5 : decode cX4_joinSmall 5 = .ok (.iload_n 2, 1) := by decide +kernel
theorem dX4_joinSmall_6 : decode cX4_joinSmall 6 = .ok (.iconst 2, 1) := by decide +kernel
theorem dX4_joinSmall_7 : decode cX4_joinSmall 7 = .ok (.if_icmp .lt 43, 3) := by decide +kernel
theorem dX4_joinSmall_10 : decode cX4_joinSmall 10 = .ok (.aload_n 0, 1) := by decide +kernel
theorem dX4_joinSmall_11 : decode cX4_joinSmall 11 = .ok (.invokevirtual 53, 3) := by decide +kernel
theorem dX4_joinSmall_14 : decode cX4_joinSmall 14 = .ok (.istore_n 3, 1) := by decide +kernel
theorem dX4_joinSmall_15 : decode cX4_joinSmall 15 = .ok (.aload_n 0, 1) := by decide +kernel
theorem dX4_joinSmall_16 : decode cX4_joinSmall 16 = .ok (.iload_n 3, 1) := by decide +kernel
theorem dX4_joinSmall_17 : decode cX4_joinSmall 17 = .ok (.invokevirtual 57, 3) := by decide +kernel
theorem dX4_joinSmall_20 : decode cX4_joinSmall 20 = .ok (.iload_n 1, 1) := by decide +kernel
theorem dX4_joinSmall_21 : decode cX4_joinSmall 21 = .ok (.if_icmp .lt 4, 3) := by decide +kernel
theorem dX4_joinSmall_24 : decode cX4_joinSmall 24 = .ok (.return_, 1) := by decide +kernel
theorem dX4_joinSmall_25 : decode cX4_joinSmall 25 = .ok (.aload_n 0, 1) := by decide +kernel
theorem dX4_joinSmall_26 : decode cX4_joinSmall 26 = .ok (.aload_n 0, 1) := by decide +kernel
theorem dX4_joinSmall_27 : decode cX4_joinSmall 27 = .ok (.iload_n 3, 1) := by decide +kernel
theorem dX4_joinSmall_28 : decode cX4_joinSmall 28 = .ok (.invokevirtual 61, 3) := by decide +kernel
theorem dX4_joinSmall_31 : decode cX4_joinSmall 31 = .ok (.ifCond .eq 9, 3) := by decide +kernel
theorem dX4_joinSmall_34 : decode cX4_joinSmall 34 = .ok (.iload_n 3, 1) := by decide +kernel
theorem dX4_joinSmall_35 : decode cX4_joinSmall 35 = .ok (.iconst 1, 1) := by decide +kernel
theorem dX4_joinSmall_36 : decode cX4_joinSmall 36 = .ok (.isub, 1) := by decide +kernel
theorem dX4_joinSmall_37 : decode cX4_joinSmall 37 = .ok (.goto 4, 3) := by decide +kernel
theorem dX4_joinSmall_40 : decode cX4_joinSmall 40 = .ok (.iload_n 3, 1) := by decide +kernel
theorem dX4_joinSmall_41 : decode cX4_joinSmall 41 = .ok (.invokevirtual 43, 3) := by decide +kernel
theorem dX4_joinSmall_44 : decode cX4_joinSmall 44 = .ok (.iinc 2 (-1), 3) := by decide +kernel
theorem dX4_joinSmall_47 : decode cX4_joinSmall 47 = .ok (.goto (-42), 3) := by decide +kernel
theorem dX4_joinSmall_50 : decode cX4_joinSmall 50 = .ok (.return_, 1) := by decide +kernel
theorem dX4_joinMany_0 : decode cX4_joinMany 0 = .ok (.aload_n 0, 1) := by decide +kernel
theorem dX4_joinMany_1 : decode cX4_joinMany 1 = .ok (.getfield 27, 3) := by decide +kernel
theorem dX4_joinMany_4 : decode cX4_joinMany 4 = .ok (.istore_n 2, 1) := by decide +kernel
theorem dX4_joinMany_5 : decode cX4_joinMany 5 = .ok (.iload_n 2, 1) := by decide +kernel
theorem dX4_joinMany_6 : decode cX4_joinMany 6 = .ok (.iconst 2, 1) := by decide +kernel
theorem dX4_joinMany_7 : decode cX4_joinMany 7 = .ok (.if_icmp .lt 22, 3) := by decide +kernel
theorem dX4_joinMany_10 : decode cX4_joinMany 10 = .ok (.iload_n 2, 1) := by decide +kernel
theorem dX4_joinMany_11 : decode cX4_joinMany 11 = .ok (.iload_n 1, 1) := by decide +kernel
theorem dX4_joinMany_12 : decode cX4_joinMany 12 = .ok (.if_icmp .le 17, 3) := by decide +kernel
theorem dX4_joinMany_15 : decode cX4_joinMany 15 = .ok (.aload_n 0, 1) := by decide +kernel
theorem dX4_joinMany_16 : decode cX4_joinMany 16 = .ok (.aload_n 0, 1) := by decide +kernel
theorem dX4_joinMany_17 : decode cX4_joinMany 17 = .ok (.invokevirtual 64, 3) := by decide +kernel
theorem dX4_joinMany_20 : decode cX4_joinMany 20 = .ok (.invokevirtual 43, 3) := by decide +kernel
theorem dX4_joinMany_23 : decode cX4_joinMany 23 = .ok (.iinc 2 (-1), 3) := by decide +kernel
theorem dX4_joinMany_26 : decode cX4_joinMany 26 = .ok (.goto (-21), 3) := by decide +kernel
theorem dX4_joinMany_29 : decode cX4_joinMany 29 = .ok (.return_, 1) := by decide +kernel
theorem dX4_cheapest_0 : decode cX4_cheapest 0 = .ok (.iconst 0, 1) := by decide +kernel
theorem dX4_cheapest_1 : decode cX4_cheapest 1 = .ok (.istore_n 1, 1) := by decide +kernel
theorem dX4_cheapest_2 : decode cX4_cheapest 2 = .ok (.iconst 1, 1) := by decide +kernel
theorem dX4_cheapest_3 : decode cX4_cheapest 3 = .ok (.istore_n 2, 1) := by decide +kernel
theorem dX4_cheapest_4 : decode cX4_cheapest 4 = .ok (.iload_n 2, 1) := by decide +kernel
theorem dX4_cheapest_5 : decode cX4_cheapest 5 = .ok (.aload_n 0, 1) := by decide +kernel
theorem dX4_cheapest_6 : decode cX4_cheapest 6 = .ok (.getfield 27, 3) := by decide +kernel
theorem dX4_cheapest_9 : decode cX4_cheapest 9 = .ok (.iconst 1, 1) := by decide +kernel
theorem dX4_cheapest_10 : decode cX4_cheapest 10 = .ok (.isub, 1) := by decide +kernel
theorem dX4_cheapest_11 : decode cX4_cheapest 11 = .ok (.if_icmp .ge 37, 3) := by decide +kernel
theorem dX4_cheapest_14 : decode cX4_cheapest 14 = .ok (.aload_n 0, 1) := by decide +kernel
theorem dX4_cheapest_15 : decode cX4_cheapest 15 = .ok (.iload_n 2, 1) := by decide +kernel
theorem dX4_cheapest_16 : decode cX4_cheapest 16 = .ok (.invokevirtual 67, 3) := by decide +kernel
theorem dX4_cheapest_19 : decode cX4_cheapest 19 = .ok (.aload_n 0, 1) := by decide +kernel
theorem dX4_cheapest_20 : decode cX4_cheapest 20 = .ok (.iload_n 2, 1) := by decide +kernel
theorem dX4_cheapest_21 : decode cX4_cheapest 21 = .ok (.invokevirtual 71, 3) := by decide +kernel
theorem dX4_cheapest_24 : decode cX4_cheapest 24 = .ok (.aload_n 0, 1) := by decide +kernel
theorem dX4_cheapest_25 : decode cX4_cheapest 25 = .ok (.iload_n 1, 1) := by decide +kernel
theorem dX4_cheapest_26 : decode cX4_cheapest 26 = .ok (.invokevirtual 67, 3) := by decide +kernel
theorem dX4_cheapest_29 : decode cX4_cheapest 29 = .ok (.aload_n 0, 1) := by decide +kernel
theorem dX4_cheapest_30 : decode cX4_cheapest 30 = .ok (.iload_n 1, 1) := by decide +kernel
theorem dX4_cheapest_31 : decode cX4_cheapest 31 = .ok (.invokevirtual 71, 3) := by decide +kernel
theorem dX4_cheapest_34 : decode cX4_cheapest 34 = .ok (.invokestatic 74, 3) := by decide +kernel
theorem dX4_cheapest_37 : decode cX4_cheapest 37 = .ok (.ifCond .eq 5, 3) := by decide +kernel
theorem dX4_cheapest_40 : decode cX4_cheapest 40 = .ok (.iload_n 2, 1) := by decide +kernel
theorem dX4_cheapest_41 : decode cX4_cheapest 41 = .ok (.istore_n 1, 1) := by decide +kernel
theorem dX4_cheapest_42 : decode cX4_cheapest 42 = .ok (.iinc 2 1, 3) := by decide +kernel
theorem dX4_cheapest_45 : decode cX4_cheapest 45 = .ok (.goto (-41), 3) := by decide +kernel
theorem dX4_cheapest_48 : decode cX4_cheapest 48 = .ok (.iload_n 1, 1) := by decide +kernel
theorem dX4_cheapest_49 : decode cX4_cheapest 49 = .ok (.ireturn, 1) := by decide +kernel
theorem dX4_falls_0 : decode cX4_falls 0 = .ok (.aload_n 0, 1) := by decide +kernel
theorem dX4_falls_1 : decode cX4_falls 1 = .ok (.getfield 21, 3) := by decide +kernel
theorem dX4_falls_4 : decode cX4_falls 4 = .ok (.iload_n 1, 1) := by decide +kernel
theorem dX4_falls_5 : decode cX4_falls 5 = .ok (.iconst 1, 1) := by decide +kernel
theorem dX4_falls_6 : decode cX4_falls 6 = .ok (.iadd, 1) := by decide +kernel
theorem dX4_falls_7 : decode cX4_falls 7 = .ok (.iaload, 1) := by decide +kernel
theorem dX4_falls_8 : decode cX4_falls 8 = .ok (.aload_n 0, 1) := by decide +kernel
theorem dX4_falls_9 : decode cX4_falls 9 = .ok (.iload_n 1, 1) := by decide +kernel
theorem dX4_falls_10 : decode cX4_falls 10 = .ok (.invokevirtual 57, 3) := by decide +kernel
theorem dX4_falls_13 : decode cX4_falls 13 = .ok (.imul, 1) := by decide +kernel
theorem dX4_falls_14 : decode cX4_falls 14 = .ok (.aload_n 0, 1) := by decide +kernel
theorem dX4_falls_15 : decode cX4_falls 15 = .ok (.getfield 21, 3) := by decide +kernel
theorem dX4_falls_18 : decode cX4_falls 18 = .ok (.iload_n 1, 1) := by decide +kernel
theorem dX4_falls_19 : decode cX4_falls 19 = .ok (.iaload, 1) := by decide +kernel
theorem dX4_falls_20 : decode cX4_falls 20 = .ok (.aload_n 0, 1) := by decide +kernel
theorem dX4_falls_21 : decode cX4_falls 21 = .ok (.iload_n 1, 1) := by decide +kernel
theorem dX4_falls_22 : decode cX4_falls 22 = .ok (.iconst 1, 1) := by decide +kernel
theorem dX4_falls_23 : decode cX4_falls 23 = .ok (.iadd, 1) := by decide +kernel
theorem dX4_falls_24 : decode cX4_falls 24 = .ok (.invokevirtual 57, 3) := by decide +kernel
theorem dX4_falls_27 : decode cX4_falls 27 = .ok (.imul, 1) := by decide +kernel
theorem dX4_falls_28 : decode cX4_falls 28 = .ok (.if_icmp .ge 7, 3) := by decide +kernel
theorem dX4_falls_31 : decode cX4_falls 31 = .ok (.iconst 1, 1) := by decide +kernel
theorem dX4_falls_32 : decode cX4_falls 32 = .ok (.goto 4, 3) := by decide +kernel
theorem dX4_falls_35 : decode cX4_falls 35 = .ok (.iconst 0, 1) := by decide +kernel
theorem dX4_falls_36 : decode cX4_falls 36 = .ok (.ireturn, 1) := by decide +kernel
theorem dX4_join_0 : decode cX4_join 0 = .ok (.iload_n 1, 1) := by decide +kernel
theorem dX4_join_1 : decode cX4_join 1 = .ok (.ifCond .lt 13, 3) := by decide +kernel
theorem dX4_join_4 : decode cX4_join 4 = .ok (.iload_n 1, 1) := by decide +kernel
theorem dX4_join_5 : decode cX4_join 5 = .ok (.iconst 1, 1) := by decide +kernel
theorem dX4_join_6 : decode cX4_join 6 = .ok (.iadd, 1) := by decide +kernel
theorem dX4_join_7 : decode cX4_join 7 = .ok (.aload_n 0, 1) := by decide +kernel
theorem dX4_join_8 : decode cX4_join 8 = .ok (.getfield 27, 3) := by decide +kernel
theorem dX4_join_11 : decode cX4_join 11 = .ok (.if_icmp .lt 4, 3) := by decide +kernel
theorem dX4_join_14 : decode cX4_join 14 = .ok (.return_, 1) := by decide +kernel
theorem dX4_join_15 : decode cX4_join 15 = .ok (.aload_n 0, 1) := by decide +kernel
theorem dX4_join_16 : decode cX4_join 16 = .ok (.getfield 15, 3) := by decide +kernel
theorem dX4_join_19 : decode cX4_join 19 = .ok (.iload_n 1, 1) := by decide +kernel
theorem dX4_join_20 : decode cX4_join 20 = .ok (.aload_n 0, 1) := by decide +kernel
theorem dX4_join_21 : decode cX4_join 21 = .ok (.getfield 15, 3) := by decide +kernel
theorem dX4_join_24 : decode cX4_join 24 = .ok (.iload_n 1, 1) := by decide +kernel
theorem dX4_join_25 : decode cX4_join 25 = .ok (.iconst 1, 1) := by decide +kernel
theorem dX4_join_26 : decode cX4_join 26 = .ok (.iadd, 1) := by decide +kernel
theorem dX4_join_27 : decode cX4_join 27 = .ok (.iaload, 1) := by decide +kernel
theorem dX4_join_28 : decode cX4_join 28 = .ok (.iastore, 1) := by decide +kernel
theorem dX4_join_29 : decode cX4_join 29 = .ok (.aload_n 0, 1) := by decide +kernel
theorem dX4_join_30 : decode cX4_join 30 = .ok (.getfield 18, 3) := by decide +kernel
theorem dX4_join_33 : decode cX4_join 33 = .ok (.iload_n 1, 1) := by decide +kernel
theorem dX4_join_34 : decode cX4_join 34 = .ok (.dup2, 1) := by decide +kernel
theorem dX4_join_35 : decode cX4_join 35 = .ok (.iaload, 1) := by decide +kernel
theorem dX4_join_36 : decode cX4_join 36 = .ok (.aload_n 0, 1) := by decide +kernel
theorem dX4_join_37 : decode cX4_join 37 = .ok (.getfield 18, 3) := by decide +kernel
theorem dX4_join_40 : decode cX4_join 40 = .ok (.iload_n 1, 1) := by decide +kernel
theorem dX4_join_41 : decode cX4_join 41 = .ok (.iconst 1, 1) := by decide +kernel
theorem dX4_join_42 : decode cX4_join 42 = .ok (.iadd, 1) := by decide +kernel
theorem dX4_join_43 : decode cX4_join 43 = .ok (.iaload, 1) := by decide +kernel
theorem dX4_join_44 : decode cX4_join 44 = .ok (.iadd, 1) := by decide +kernel
theorem dX4_join_45 : decode cX4_join 45 = .ok (.iastore, 1) := by decide +kernel
theorem dX4_join_46 : decode cX4_join 46 = .ok (.aload_n 0, 1) := by decide +kernel
theorem dX4_join_47 : decode cX4_join 47 = .ok (.getfield 21, 3) := by decide +kernel
theorem dX4_join_50 : decode cX4_join 50 = .ok (.iload_n 1, 1) := by decide +kernel
theorem dX4_join_51 : decode cX4_join 51 = .ok (.dup2, 1) := by decide +kernel
theorem dX4_join_52 : decode cX4_join 52 = .ok (.iaload, 1) := by decide +kernel
theorem dX4_join_53 : decode cX4_join 53 = .ok (.aload_n 0, 1) := by decide +kernel
theorem dX4_join_54 : decode cX4_join 54 = .ok (.getfield 21, 3) := by decide +kernel
theorem dX4_join_57 : decode cX4_join 57 = .ok (.iload_n 1, 1) := by decide +kernel
theorem dX4_join_58 : decode cX4_join 58 = .ok (.iconst 1, 1) := by decide +kernel
theorem dX4_join_59 : decode cX4_join 59 = .ok (.iadd, 1) := by decide +kernel
theorem dX4_join_60 : decode cX4_join 60 = .ok (.iaload, 1) := by decide +kernel
theorem dX4_join_61 : decode cX4_join 61 = .ok (.iadd, 1) := by decide +kernel
theorem dX4_join_62 : decode cX4_join 62 = .ok (.iastore, 1) := by decide +kernel
theorem dX4_join_63 : decode cX4_join 63 = .ok (.aload_n 0, 1) := by decide +kernel
theorem dX4_join_64 : decode cX4_join 64 = .ok (.getfield 24, 3) := by decide +kernel
theorem dX4_join_67 : decode cX4_join 67 = .ok (.iload_n 1, 1) := by decide +kernel
theorem dX4_join_68 : decode cX4_join 68 = .ok (.dup2, 1) := by decide +kernel
theorem dX4_join_69 : decode cX4_join 69 = .ok (.iaload, 1) := by decide +kernel
theorem dX4_join_70 : decode cX4_join 70 = .ok (.aload_n 0, 1) := by decide +kernel
theorem dX4_join_71 : decode cX4_join 71 = .ok (.getfield 24, 3) := by decide +kernel
theorem dX4_join_74 : decode cX4_join 74 = .ok (.iload_n 1, 1) := by decide +kernel
theorem dX4_join_75 : decode cX4_join 75 = .ok (.iconst 1, 1) := by decide +kernel
theorem dX4_join_76 : decode cX4_join 76 = .ok (.iadd, 1) := by decide +kernel
theorem dX4_join_77 : decode cX4_join 77 = .ok (.iaload, 1) := by decide +kernel
theorem dX4_join_78 : decode cX4_join 78 = .ok (.iadd, 1) := by decide +kernel
theorem dX4_join_79 : decode cX4_join 79 = .ok (.iastore, 1) := by decide +kernel
theorem dX4_join_80 : decode cX4_join 80 = .ok (.aload_n 0, 1) := by decide +kernel
theorem dX4_join_81 : decode cX4_join 81 = .ok (.dup, 1) := by decide +kernel
theorem dX4_join_82 : decode cX4_join 82 = .ok (.getfield 27, 3) := by decide +kernel
theorem dX4_join_85 : decode cX4_join 85 = .ok (.iconst 1, 1) := by decide +kernel
theorem dX4_join_86 : decode cX4_join 86 = .ok (.isub, 1) := by decide +kernel
theorem dX4_join_87 : decode cX4_join 87 = .ok (.putfield 27, 3) := by decide +kernel
theorem dX4_join_90 : decode cX4_join 90 = .ok (.aload_n 0, 1) := by decide +kernel
theorem dX4_join_91 : decode cX4_join 91 = .ok (.getfield 27, 3) := by decide +kernel
theorem dX4_join_94 : decode cX4_join 94 = .ok (.iload_n 1, 1) := by decide +kernel
theorem dX4_join_95 : decode cX4_join 95 = .ok (.isub, 1) := by decide +kernel
theorem dX4_join_96 : decode cX4_join 96 = .ok (.iconst 1, 1) := by decide +kernel
theorem dX4_join_97 : decode cX4_join 97 = .ok (.isub, 1) := by decide +kernel
theorem dX4_join_98 : decode cX4_join 98 = .ok (.istore_n 2, 1) := by decide +kernel
theorem dX4_join_99 : decode cX4_join 99 = .ok (.aload_n 0, 1) := by decide +kernel
theorem dX4_join_100 : decode cX4_join 100 = .ok (.getfield 9, 3) := by decide +kernel
theorem dX4_join_103 : decode cX4_join 103 = .ok (.iload_n 1, 1) := by decide +kernel
theorem dX4_join_104 : decode cX4_join 104 = .ok (.iconst 2, 1) := by decide +kernel
theorem dX4_join_105 : decode cX4_join 105 = .ok (.iadd, 1) := by decide +kernel
theorem dX4_join_106 : decode cX4_join 106 = .ok (.aload_n 0, 1) := by decide +kernel
theorem dX4_join_107 : decode cX4_join 107 = .ok (.getfield 9, 3) := by decide +kernel
theorem dX4_join_110 : decode cX4_join 110 = .ok (.iload_n 1, 1) := by decide +kernel
theorem dX4_join_111 : decode cX4_join 111 = .ok (.iconst 1, 1) := by decide +kernel
theorem dX4_join_112 : decode cX4_join 112 = .ok (.iadd, 1) := by decide +kernel
theorem dX4_join_113 : decode cX4_join 113 = .ok (.iload_n 2, 1) := by decide +kernel
theorem dX4_join_114 : decode cX4_join 114 = .ok (.invokestatic 47, 3) := by decide +kernel
theorem dX4_join_117 : decode cX4_join 117 = .ok (.aload_n 0, 1) := by decide +kernel
theorem dX4_join_118 : decode cX4_join 118 = .ok (.getfield 15, 3) := by decide +kernel
theorem dX4_join_121 : decode cX4_join 121 = .ok (.iload_n 1, 1) := by decide +kernel
theorem dX4_join_122 : decode cX4_join 122 = .ok (.iconst 2, 1) := by decide +kernel
theorem dX4_join_123 : decode cX4_join 123 = .ok (.iadd, 1) := by decide +kernel
theorem dX4_join_124 : decode cX4_join 124 = .ok (.aload_n 0, 1) := by decide +kernel
theorem dX4_join_125 : decode cX4_join 125 = .ok (.getfield 15, 3) := by decide +kernel
theorem dX4_join_128 : decode cX4_join 128 = .ok (.iload_n 1, 1) := by decide +kernel
theorem dX4_join_129 : decode cX4_join 129 = .ok (.iconst 1, 1) := by decide +kernel
theorem dX4_join_130 : decode cX4_join 130 = .ok (.iadd, 1) := by decide +kernel
theorem dX4_join_131 : decode cX4_join 131 = .ok (.iload_n 2, 1) := by decide +kernel
theorem dX4_join_132 : decode cX4_join 132 = .ok (.invokestatic 47, 3) := by decide +kernel
theorem dX4_join_135 : decode cX4_join 135 = .ok (.aload_n 0, 1) := by decide +kernel
theorem dX4_join_136 : decode cX4_join 136 = .ok (.getfield 18, 3) := by decide +kernel
theorem dX4_join_139 : decode cX4_join 139 = .ok (.iload_n 1, 1) := by decide +kernel
theorem dX4_join_140 : decode cX4_join 140 = .ok (.iconst 2, 1) := by decide +kernel
theorem dX4_join_141 : decode cX4_join 141 = .ok (.iadd, 1) := by decide +kernel
theorem dX4_join_142 : decode cX4_join 142 = .ok (.aload_n 0, 1) := by decide +kernel
theorem dX4_join_143 : decode cX4_join 143 = .ok (.getfield 18, 3) := by decide +kernel
theorem dX4_join_146 : decode cX4_join 146 = .ok (.iload_n 1, 1) := by decide +kernel
theorem dX4_join_147 : decode cX4_join 147 = .ok (.iconst 1, 1) := by decide +kernel
theorem dX4_join_148 : decode cX4_join 148 = .ok (.iadd, 1) := by decide +kernel
theorem dX4_join_149 : decode cX4_join 149 = .ok (.iload_n 2, 1) := by decide +kernel
theorem dX4_join_150 : decode cX4_join 150 = .ok (.invokestatic 47, 3) := by decide +kernel
theorem dX4_join_153 : decode cX4_join 153 = .ok (.aload_n 0, 1) := by decide +kernel
