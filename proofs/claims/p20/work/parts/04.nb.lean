theorem dX0_init_0 : decode cX0_init 0 = .ok (.aload_n 0, 1) := by decide +kernel
theorem dX0_init_1 : decode cX0_init 1 = .ok (.invokespecial 3, 3) := by decide +kernel
theorem dX0_init_4 : decode cX0_init 4 = .ok (.aload_n 0, 1) := by decide +kernel
theorem dX0_init_5 : decode cX0_init 5 = .ok (.iload_n 1, 1) := by decide +kernel
theorem dX0_init_6 : decode cX0_init 6 = .ok (.putfield 9, 3) := by decide +kernel
theorem dX0_init_9 : decode cX0_init 9 = .ok (.aload_n 0, 1) := by decide +kernel
theorem dX0_init_10 : decode cX0_init 10 = .ok (.iload_n 2, 1) := by decide +kernel
theorem dX0_init_11 : decode cX0_init 11 = .ok (.putfield 15, 3) := by decide +kernel
theorem dX0_init_14 : decode cX0_init 14 = .ok (.aload_n 0, 1) := by decide +kernel
theorem dX0_init_15 : decode cX0_init 15 = .ok (.iload_n 3, 1) := by decide +kernel
theorem dX0_init_16 : decode cX0_init 16 = .ok (.putfield 18, 3) := by decide +kernel
theorem dX0_init_19 : decode cX0_init 19 = .ok (.aload_n 0, 1) := by decide +kernel
theorem dX0_init_20 : decode cX0_init 20 = .ok (.iload 4, 2) := by decide +kernel
theorem dX0_init_22 : decode cX0_init 22 = .ok (.putfield 21, 3) := by decide +kernel
theorem dX0_init_25 : decode cX0_init 25 = .ok (.aload_n 0, 1) := by decide +kernel
theorem dX0_init_26 : decode cX0_init 26 = .ok (.iload 5, 2) := by decide +kernel
theorem dX0_init_28 : decode cX0_init 28 = .ok (.putfield 24, 3) := by decide +kernel
theorem dX0_init_31 : decode cX0_init 31 = .ok (.return_, 1) := by decide +kernel
theorem dX0_weighing_0 : decode cX0_weighing 0 = .ok (.aload_n 1, 1) := by decide +kernel
theorem dX0_weighing_1 : decode cX0_weighing 1 = .ok (.aload_n 0, 1) := by decide +kernel
theorem dX0_weighing_2 : decode cX0_weighing 2 = .ok (.getfield 9, 3) := by decide +kernel
theorem dX0_weighing_5 : decode cX0_weighing 5 = .ok (.invokevirtual 27, 3) := by decide +kernel
theorem dX0_weighing_8 : decode cX0_weighing 8 = .ok (.istore_n 3, 1) := by decide +kernel
theorem dX0_weighing_9 : decode cX0_weighing 9 = .ok (.iload_n 3, 1) := by decide +kernel
theorem dX0_weighing_10 : decode cX0_weighing 10 = .ok (.iconst (-1), 1) := by decide +kernel
theorem dX0_weighing_11 : decode cX0_weighing 11 = .ok (.if_icmp .eq 45, 3) := by decide +kernel
theorem dX0_weighing_14 : decode cX0_weighing 14 = .ok (.iload_n 3, 1) := by decide +kernel
theorem dX0_weighing_15 : decode cX0_weighing 15 = .ok (.bipush 100, 2) := by decide +kernel
theorem dX0_weighing_17 : decode cX0_weighing 17 = .ok (.irem, 1) := by decide +kernel
theorem dX0_weighing_18 : decode cX0_weighing 18 = .ok (.aload_n 0, 1) := by decide +kernel
theorem dX0_weighing_19 : decode cX0_weighing 19 = .ok (.getfield 15, 3) := by decide +kernel
theorem dX0_weighing_22 : decode cX0_weighing 22 = .ok (.isub, 1) := by decide +kernel
theorem dX0_weighing_23 : decode cX0_weighing 23 = .ok (.invokestatic 33, 3) := by decide +kernel
theorem dX0_weighing_26 : decode cX0_weighing 26 = .ok (.aload_n 0, 1) := by decide +kernel
theorem dX0_weighing_27 : decode cX0_weighing 27 = .ok (.getfield 21, 3) := by decide +kernel
theorem dX0_weighing_30 : decode cX0_weighing 30 = .ok (.if_icmp .gt 26, 3) := by decide +kernel
theorem dX0_weighing_33 : decode cX0_weighing 33 = .ok (.iload_n 3, 1) := by decide +kernel
theorem dX0_weighing_34 : decode cX0_weighing 34 = .ok (.bipush 100, 2) := by decide +kernel
theorem dX0_weighing_36 : decode cX0_weighing 36 = .ok (.idiv, 1) := by decide +kernel
theorem dX0_weighing_37 : decode cX0_weighing 37 = .ok (.aload_n 0, 1) := by decide +kernel
theorem dX0_weighing_38 : decode cX0_weighing 38 = .ok (.getfield 18, 3) := by decide +kernel
theorem dX0_weighing_41 : decode cX0_weighing 41 = .ok (.isub, 1) := by decide +kernel
theorem dX0_weighing_42 : decode cX0_weighing 42 = .ok (.invokestatic 33, 3) := by decide +kernel
theorem dX0_weighing_45 : decode cX0_weighing 45 = .ok (.aload_n 0, 1) := by decide +kernel
theorem dX0_weighing_46 : decode cX0_weighing 46 = .ok (.getfield 21, 3) := by decide +kernel
theorem dX0_weighing_49 : decode cX0_weighing 49 = .ok (.if_icmp .gt 7, 3) := by decide +kernel
theorem dX0_weighing_52 : decode cX0_weighing 52 = .ok (.iconst 1, 1) := by decide +kernel
theorem dX0_weighing_53 : decode cX0_weighing 53 = .ok (.goto 4, 3) := by decide +kernel
theorem dX0_weighing_56 : decode cX0_weighing 56 = .ok (.iconst 0, 1) := by decide +kernel
theorem dX0_weighing_57 : decode cX0_weighing 57 = .ok (.istore 4, 2) := by decide +kernel
theorem dX0_weighing_59 : decode cX0_weighing 59 = .ok (.iload 4, 2) := by decide +kernel
theorem dX0_weighing_61 : decode cX0_weighing 61 = .ok (.ifCond .eq 8, 3) := by decide +kernel
theorem dX0_weighing_64 : decode cX0_weighing 64 = .ok (.bipush 100, 2) := by decide +kernel
theorem dX0_weighing_66 : decode cX0_weighing 66 = .ok (.goto 7, 3) := by decide +kernel
theorem dX0_weighing_69 : decode cX0_weighing 69 = .ok (.aload_n 0, 1) := by decide +kernel
theorem dX0_weighing_70 : decode cX0_weighing 70 = .ok (.getfield 24, 3) := by decide +kernel
theorem dX0_weighing_73 : decode cX0_weighing 73 = .ok (.ireturn, 1) := by decide +kernel
theorem dX1_init_0 : decode cX1_init 0 = .ok (.aload_n 0, 1) := by decide +kernel
theorem dX1_init_1 : decode cX1_init 1 = .ok (.invokespecial 3, 3) := by decide +kernel
theorem dX1_init_4 : decode cX1_init 4 = .ok (.aload_n 0, 1) := by decide +kernel
theorem dX1_init_5 : decode cX1_init 5 = .ok (.bipush 72, 2) := by decide +kernel
theorem dX1_init_7 : decode cX1_init 7 = .ok (.newarray .byte, 2) := by decide +kernel
theorem dX1_init_9 : decode cX1_init 9 = .ok (.putfield 9, 3) := by decide +kernel
theorem dX1_init_12 : decode cX1_init 12 = .ok (.aload_n 0, 1) := by decide +kernel
theorem dX1_init_13 : decode cX1_init 13 = .ok (.bipush 72, 2) := by decide +kernel
theorem dX1_init_15 : decode cX1_init 15 = .ok (.newarray .byte, 2) := by decide +kernel
theorem dX1_init_17 : decode cX1_init 17 = .ok (.putfield 15, 3) := by decide +kernel
theorem dX1_init_20 : decode cX1_init 20 = .ok (.aload_n 0, 1) := by decide +kernel
theorem dX1_init_21 : decode cX1_init 21 = .ok (.bipush 72, 2) := by decide +kernel
theorem dX1_init_23 : decode cX1_init 23 = .ok (.newarray .boolean, 2) := by decide +kernel
theorem dX1_init_25 : decode cX1_init 25 = .ok (.putfield 18, 3) := by decide +kernel
theorem dX1_init_28 : decode cX1_init 28 = .ok (.return_, 1) := by decide +kernel
theorem dX1_clear_0 : decode cX1_clear 0 = .ok (.iconst 0, 1) := by decide +kernel
theorem dX1_clear_1 : decode cX1_clear 1 = .ok (.istore_n 1, 1) := by decide +kernel
theorem dX1_clear_2 : decode cX1_clear 2 = .ok (.iload_n 1, 1) := by decide +kernel
theorem dX1_clear_3 : decode cX1_clear 3 = .ok (.bipush 72, 2) := by decide +kernel
theorem dX1_clear_5 : decode cX1_clear 5 = .ok (.if_icmp .ge 30, 3) := by decide +kernel
theorem dX1_clear_8 : decode cX1_clear 8 = .ok (.aload_n 0, 1) := by decide +kernel
theorem dX1_clear_9 : decode cX1_clear 9 = .ok (.getfield 18, 3) := by decide +kernel
theorem dX1_clear_12 : decode cX1_clear 12 = .ok (.iload_n 1, 1) := by decide +kernel
theorem dX1_clear_13 : decode cX1_clear 13 = .ok (.iconst 0, 1) := by decide +kernel
theorem dX1_clear_14 : decode cX1_clear 14 = .ok (.bastore, 1) := by decide +kernel
theorem dX1_clear_15 : decode cX1_clear 15 = .ok (.aload_n 0, 1) := by decide +kernel
theorem dX1_clear_16 : decode cX1_clear 16 = .ok (.getfield 9, 3) := by decide +kernel
theorem dX1_clear_19 : decode cX1_clear 19 = .ok (.iload_n 1, 1) := by decide +kernel
theorem dX1_clear_20 : decode cX1_clear 20 = .ok (.iconst 0, 1) := by decide +kernel
theorem dX1_clear_21 : decode cX1_clear 21 = .ok (.bastore, 1) := by decide +kernel
theorem dX1_clear_22 : decode cX1_clear 22 = .ok (.aload_n 0, 1) := by decide +kernel
theorem dX1_clear_23 : decode cX1_clear 23 = .ok (.getfield 15, 3) := by decide +kernel
theorem dX1_clear_26 : decode cX1_clear 26 = .ok (.iload_n 1, 1) := by decide +kernel
theorem dX1_clear_27 : decode cX1_clear 27 = .ok (.iconst 0, 1) := by decide +kernel
theorem dX1_clear_28 : decode cX1_clear 28 = .ok (.bastore, 1) := by decide +kernel
theorem dX1_clear_29 : decode cX1_clear 29 = .ok (.iinc 1 1, 3) := by decide +kernel
theorem dX1_clear_32 : decode cX1_clear 32 = .ok (.goto (-30), 3) := by decide +kernel
theorem dX1_clear_35 : decode cX1_clear 35 = .ok (.return_, 1) := by decide +kernel
theorem dX1_isTold_0 : decode cX1_isTold 0 = .ok (.iload_n 1, 1) := by decide +kernel
theorem dX1_isTold_1 : decode cX1_isTold 1 = .ok (.ifCond .lt 22, 3) := by decide +kernel
theorem dX1_isTold_4 : decode cX1_isTold 4 = .ok (.iload_n 1, 1) := by decide +kernel
theorem dX1_isTold_5 : decode cX1_isTold 5 = .ok (.bipush 72, 2) := by decide +kernel
theorem dX1_isTold_7 : decode cX1_isTold 7 = .ok (.if_icmp .ge 16, 3) := by decide +kernel
theorem dX1_isTold_10 : decode cX1_isTold 10 = .ok (.aload_n 0, 1) := by decide +kernel
theorem dX1_isTold_11 : decode cX1_isTold 11 = .ok (.getfield 18, 3) := by decide +kernel
theorem dX1_isTold_14 : decode cX1_isTold 14 = .ok (.iload_n 1, 1) := by decide +kernel
theorem dX1_isTold_15 : decode cX1_isTold 15 = .ok (.baload, 1) := by decide +kernel
theorem dX1_isTold_16 : decode cX1_isTold 16 = .ok (.ifCond .eq 7, 3) := by decide +kernel
theorem dX1_isTold_19 : decode cX1_isTold 19 = .ok (.iconst 1, 1) := by decide +kernel
theorem dX1_isTold_20 : decode cX1_isTold 20 = .ok (.goto 4, 3) := by decide +kernel
theorem dX1_isTold_23 : decode cX1_isTold 23 = .ok (.iconst 0, 1) := by decide +kernel
theorem dX1_isTold_24 : decode cX1_isTold 24 = .ok (.ireturn, 1) := by decide +kernel
theorem dX1_tell_0 : decode cX1_tell 0 = .ok (.iload_n 1, 1) := by decide +kernel
theorem dX1_tell_1 : decode cX1_tell 1 = .ok (.invokestatic 22, 3) := by decide +kernel
theorem dX1_tell_4 : decode cX1_tell 4 = .ok (.ifCond .eq 26, 3) := by decide +kernel
theorem dX1_tell_7 : decode cX1_tell 7 = .ok (.aload_n 0, 1) := by decide +kernel
theorem dX1_tell_8 : decode cX1_tell 8 = .ok (.getfield 18, 3) := by decide +kernel
theorem dX1_tell_11 : decode cX1_tell 11 = .ok (.iload_n 1, 1) := by decide +kernel
theorem dX1_tell_12 : decode cX1_tell 12 = .ok (.iconst 1, 1) := by decide +kernel
theorem dX1_tell_13 : decode cX1_tell 13 = .ok (.bastore, 1) := by decide +kernel
theorem dX1_tell_14 : decode cX1_tell 14 = .ok (.aload_n 0, 1) := by decide +kernel
theorem dX1_tell_15 : decode cX1_tell 15 = .ok (.getfield 9, 3) := by decide +kernel
theorem dX1_tell_18 : decode cX1_tell 18 = .ok (.iload_n 1, 1) := by decide +kernel
theorem dX1_tell_19 : decode cX1_tell 19 = .ok (.iload_n 2, 1) := by decide +kernel
theorem dX1_tell_20 : decode cX1_tell 20 = .ok (.i2b, 1) := by decide +kernel
theorem dX1_tell_21 : decode cX1_tell 21 = .ok (.bastore, 1) := by decide +kernel
theorem dX1_tell_22 : decode cX1_tell 22 = .ok (.aload_n 0, 1) := by decide +kernel
theorem dX1_tell_23 : decode cX1_tell 23 = .ok (.getfield 15, 3) := by decide +kernel
theorem dX1_tell_26 : decode cX1_tell 26 = .ok (.iload_n 1, 1) := by decide +kernel
theorem dX1_tell_27 : decode cX1_tell 27 = .ok (.iload_n 3, 1) := by decide +kernel
theorem dX1_tell_28 : decode cX1_tell 28 = .ok (.i2b, 1) := by decide +kernel
theorem dX1_tell_29 : decode cX1_tell 29 = .ok (.bastore, 1) := by decide +kernel
theorem dX1_tell_30 : decode cX1_tell 30 = .ok (.return_, 1) := by decide +kernel
theorem dX1_settle_0 : decode cX1_settle 0 = .ok (.iconst 1, 1) := by decide +kernel
theorem dX1_settle_1 : decode cX1_settle 1 = .ok (.istore_n 1, 1) := by decide +kernel
theorem dX1_settle_2 : decode cX1_settle 2 = .ok (.iload_n 1, 1) := by decide +kernel
theorem dX1_settle_3 : decode cX1_settle 3 = .ok (.bipush 72, 2) := by decide +kernel
theorem dX1_settle_5 : decode cX1_settle 5 = .ok (.if_icmp .ge 46, 3) := by decide +kernel
theorem dX1_settle_8 : decode cX1_settle 8 = .ok (.aload_n 0, 1) := by decide +kernel
theorem dX1_settle_9 : decode cX1_settle 9 = .ok (.getfield 18, 3) := by decide +kernel
theorem dX1_settle_12 : decode cX1_settle 12 = .ok (.iload_n 1, 1) := by decide +kernel
theorem dX1_settle_13 : decode cX1_settle 13 = .ok (.baload, 1) := by decide +kernel
theorem dX1_settle_14 : decode cX1_settle 14 = .ok (.ifCond .ne 31, 3) := by decide +kernel
theorem dX1_settle_17 : decode cX1_settle 17 = .ok (.aload_n 0, 1) := by decide +kernel
theorem dX1_settle_18 : decode cX1_settle 18 = .ok (.getfield 9, 3) := by decide +kernel
theorem dX1_settle_21 : decode cX1_settle 21 = .ok (.iload_n 1, 1) := by decide +kernel
theorem dX1_settle_22 : decode cX1_settle 22 = .ok (.aload_n 0, 1) := by decide +kernel
theorem dX1_settle_23 : decode cX1_settle 23 = .ok (.getfield 9, 3) := by decide +kernel
theorem dX1_settle_26 : decode cX1_settle 26 = .ok (.iload_n 1, 1) := by decide +kernel
theorem dX1_settle_27 : decode cX1_settle 27 = .ok (.iconst 1, 1) := by decide +kernel
theorem dX1_settle_28 : decode cX1_settle 28 = .ok (.isub, 1) := by decide +kernel
theorem dX1_settle_29 : decode cX1_settle 29 = .ok (.baload, 1) := by decide +kernel
theorem dX1_settle_30 : decode cX1_settle 30 = .ok (.bastore, 1) := by decide +kernel
theorem dX1_settle_31 : decode cX1_settle 31 = .ok (.aload_n 0, 1) := by decide +kernel
theorem dX1_settle_32 : decode cX1_settle 32 = .ok (.getfield 15, 3) := by decide +kernel
theorem dX1_settle_35 : decode cX1_settle 35 = .ok (.iload_n 1, 1) := by decide +kernel
theorem dX1_settle_36 : decode cX1_settle 36 = .ok (.aload_n 0, 1) := by decide +kernel
theorem dX1_settle_37 : decode cX1_settle 37 = .ok (.getfield 15, 3) := by decide +kernel
theorem dX1_settle_40 : decode cX1_settle 40 = .ok (.iload_n 1, 1) := by decide +kernel
theorem dX1_settle_41 : decode cX1_settle 41 = .ok (.iconst 1, 1) := by decide +kernel
theorem dX1_settle_42 : decode cX1_settle 42 = .ok (.isub, 1) := by decide +kernel
theorem dX1_settle_43 : decode cX1_settle 43 = .ok (.baload, 1) := by decide +kernel
theorem dX1_settle_44 : decode cX1_settle 44 = .ok (.bastore, 1) := by decide +kernel
theorem dX1_settle_45 : decode cX1_settle 45 = .ok (.iinc 1 1, 3) := by decide +kernel
theorem dX1_settle_48 : decode cX1_settle 48 = .ok (.goto (-46), 3) := by decide +kernel
theorem dX1_settle_51 : decode cX1_settle 51 = .ok (.return_, 1) := by decide +kernel
theorem dX1_stepIn_0 : decode cX1_stepIn 0 = .ok (.iload_n 1, 1) := by decide +kernel
theorem dX1_stepIn_1 : decode cX1_stepIn 1 = .ok (.invokestatic 22, 3) := by decide +kernel
theorem dX1_stepIn_4 : decode cX1_stepIn 4 = .ok (.ifCond .ne 5, 3) := by decide +kernel
theorem dX1_stepIn_7 : decode cX1_stepIn 7 = .ok (.iconst 0, 1) := by decide +kernel
theorem dX1_stepIn_8 : decode cX1_stepIn 8 = .ok (.ireturn, 1) := by decide +kernel
theorem dX1_stepIn_9 : decode cX1_stepIn 9 = .ok (.iload_n 2, 1) := by decide +kernel
theorem dX1_stepIn_10 : decode cX1_stepIn 10 = .ok (.ifCond .eq 12, 3) := by decide +kernel
theorem dX1_stepIn_13 : decode cX1_stepIn 13 = .ok (.aload_n 0, 1) := by decide +kernel
theorem dX1_stepIn_14 : decode cX1_stepIn 14 = .ok (.getfield 15, 3) := by decide +kernel
theorem dX1_stepIn_17 : decode cX1_stepIn 17 = .ok (.iload_n 1, 1) := by decide +kernel
theorem dX1_stepIn_18 : decode cX1_stepIn 18 = .ok (.baload, 1) := by decide +kernel
theorem dX1_stepIn_19 : decode cX1_stepIn 19 = .ok (.goto 9, 3) := by decide +kernel
theorem dX1_stepIn_22 : decode cX1_stepIn 22 = .ok (.aload_n 0, 1) := by decide +kernel
theorem dX1_stepIn_23 : decode cX1_stepIn 23 = .ok (.getfield 9, 3) := by decide +kernel
theorem dX1_stepIn_26 : decode cX1_stepIn 26 = .ok (.iload_n 1, 1) := by decide +kernel
theorem dX1_stepIn_27 : decode cX1_stepIn 27 = .ok (.baload, 1) := by decide +kernel
theorem dX1_stepIn_28 : decode cX1_stepIn 28 = .ok (.ireturn, 1) := by decide +kernel
theorem dX2_init_0 : decode cX2_init 0 = .ok (.aload_n 0, 1) := by decide +kernel
theorem dX2_init_1 : decode cX2_init 1 = .ok (.invokespecial 1, 3) := by decide +kernel
theorem dX2_init_4 : decode cX2_init 4 = .ok (.return_, 1) := by decide +kernel
theorem dX2_isStanding_0 : decode cX2_isStanding 0 = .ok (.aload_n 0, 1) := by decide +kernel
theorem dX2_isStanding_1 : decode cX2_isStanding 1 = .ok (.getfield 7, 3) := by decide +kernel
theorem dX2_isStanding_4 : decode cX2_isStanding 4 = .ok (.ifCond .ne 7, 3) := by decide +kernel
theorem dX2_isStanding_7 : decode cX2_isStanding 7 = .ok (.iconst 1, 1) := by decide +kernel
theorem dX2_isStanding_8 : decode cX2_isStanding 8 = .ok (.goto 4, 3) := by decide +kernel
theorem dX2_isStanding_11 : decode cX2_isStanding 11 = .ok (.iconst 0, 1) := by decide +kernel
theorem dX2_isStanding_12 : decode cX2_isStanding 12 = .ok (.ireturn, 1) := by decide +kernel
theorem dX2_takeBack_0 : decode cX2_takeBack 0 = .ok (.aload_n 0, 1) := by decide +kernel
theorem dX2_takeBack_1 : decode cX2_takeBack 1 = .ok (.iconst 1, 1) := by decide +kernel
theorem dX2_takeBack_2 : decode cX2_takeBack 2 = .ok (.putfield 7, 3) := by decide +kernel
theorem dX2_takeBack_5 : decode cX2_takeBack 5 = .ok (.return_, 1) := by decide +kernel
theorem dX3_init_0 : decode cX3_init 0 = .ok (.aload_n 0, 1) := by decide +kernel
theorem dX3_init_1 : decode cX3_init 1 = .ok (.invokespecial 3, 3) := by decide +kernel
theorem dX3_init_4 : decode cX3_init 4 = .ok (.aload_n 0, 1) := by decide +kernel
theorem dX3_init_5 : decode cX3_init 5 = .ok (.new 9, 3) := by decide +kernel
theorem dX3_init_8 : decode cX3_init 8 = .ok (.dup, 1) := by decide +kernel
theorem dX3_init_9 : decode cX3_init 9 = .ok (.invokespecial 11, 3) := by decide +kernel
theorem dX3_init_12 : decode cX3_init 12 = .ok (.putfield 12, 3) := by decide +kernel
theorem dX3_init_15 : decode cX3_init 15 = .ok (.aload_n 0, 1) := by decide +kernel
theorem dX3_init_16 : decode cX3_init 16 = .ok (.iconst 4, 1) := by decide +kernel
theorem dX3_init_17 : decode cX3_init 17 = .ok (.anewarray 9, 3) := by decide +kernel
theorem dX3_init_20 : decode cX3_init 20 = .ok (.putfield 18, 3) := by decide +kernel
theorem dX3_init_23 : decode cX3_init 23 = .ok (.aload_n 0, 1) := by decide +kernel
theorem dX3_init_24 : decode cX3_init 24 = .ok (.iconst 4, 1) := by decide +kernel
theorem dX3_init_25 : decode cX3_init 25 = .ok (.newarray .int, 2) := by decide +kernel
theorem dX3_init_27 : decode cX3_init 27 = .ok (.putfield 22, 3) := by decide +kernel
theorem dX3_init_30 : decode cX3_init 30 = .ok (.aload_n 0, 1) := by decide +kernel
theorem dX3_init_31 : decode cX3_init 31 = .ok (.bipush 64, 2) := by decide +kernel
theorem dX3_init_33 : decode cX3_init 33 = .ok (.newarray .boolean, 2) := by decide +kernel
theorem dX3_init_35 : decode cX3_init 35 = .ok (.putfield 26, 3) := by decide +kernel
theorem dX3_init_38 : decode cX3_init 38 = .ok (.aload_n 0, 1) := by decide +kernel
theorem dX3_init_39 : decode cX3_init 39 = .ok (.bipush 42, 2) := by decide +kernel
theorem dX3_init_41 : decode cX3_init 41 = .ok (.newarray .int, 2) := by decide +kernel
theorem dX3_init_43 : decode cX3_init 43 = .ok (.putfield 30, 3) := by decide +kernel
theorem dX3_init_46 : decode cX3_init 46 = .ok (.iconst 0, 1) := by decide +kernel
theorem dX3_init_47 : decode cX3_init 47 = .ok (.istore_n 1, 1) := by decide +kernel
theorem dX3_init_48 : decode cX3_init 48 = .ok (.iload_n 1, 1) := by decide +kernel
theorem dX3_init_49 : decode cX3_init 49 = .ok (.iconst 4, 1) := by decide +kernel
theorem dX3_init_50 : decode cX3_init 50 = .ok (.if_icmp .ge 22, 3) := by decide +kernel
theorem dX3_init_53 : decode cX3_init 53 = .ok (.aload_n 0, 1) := by decide +kernel
theorem dX3_init_54 : decode cX3_init 54 = .ok (.getfield 18, 3) := by decide +kernel
theorem dX3_init_57 : decode cX3_init 57 = .ok (.iload_n 1, 1) := by decide +kernel
theorem dX3_init_58 : decode cX3_init 58 = .ok (.new 9, 3) := by decide +kernel
theorem dX3_init_61 : decode cX3_init 61 = .ok (.dup, 1) := by decide +kernel
theorem dX3_init_62 : decode cX3_init 62 = .ok (.invokespecial 11, 3) := by decide +kernel
theorem dX3_init_65 : decode cX3_init 65 = .ok (.aastore, 1) := by decide +kernel
theorem dX3_init_66 : decode cX3_init 66 = .ok (.iinc 1 1, 3) := by decide +kernel
theorem dX3_init_69 : decode cX3_init 69 = .ok (.goto (-21), 3) := by decide +kernel
theorem dX3_init_72 : decode cX3_init 72 = .ok (.iconst 0, 1) := by decide +kernel
theorem dX3_init_73 : decode cX3_init 73 = .ok (.istore_n 1, 1) := by decide +kernel
theorem dX3_init_74 : decode cX3_init 74 = .ok (.iload_n 1, 1) := by decide +kernel
theorem dX3_init_75 : decode cX3_init 75 = .ok (.iconst 4, 1) := by decide +kernel
theorem dX3_init_76 : decode cX3_init 76 = .ok (.if_icmp .ge 16, 3) := by decide +kernel
theorem dX3_init_79 : decode cX3_init 79 = .ok (.aload_n 0, 1) := by decide +kernel
theorem dX3_init_80 : decode cX3_init 80 = .ok (.getfield 22, 3) := by decide +kernel
theorem dX3_init_83 : decode cX3_init 83 = .ok (.iload_n 1, 1) := by decide +kernel
theorem dX3_init_84 : decode cX3_init 84 = .ok (.iconst 3, 1) := by decide +kernel
theorem dX3_init_85 : decode cX3_init 85 = .ok (.iastore, 1) := by decide +kernel
theorem dX3_init_86 : decode cX3_init 86 = .ok (.iinc 1 1, 3) := by decide +kernel
theorem dX3_init_89 : decode cX3_init 89 = .ok (.goto (-15), 3) := by decide +kernel
theorem dX3_init_92 : decode cX3_init 92 = .ok (.iconst 0, 1) := by decide +kernel
theorem dX3_init_93 : decode cX3_init 93 = .ok (.istore_n 1, 1) := by decide +kernel
theorem dX3_init_94 : decode cX3_init 94 = .ok (.iload_n 1, 1) := by decide +kernel
theorem dX3_init_95 : decode cX3_init 95 = .ok (.aload_n 0, 1) := by decide +kernel
theorem dX3_init_96 : decode cX3_init 96 = .ok (.getfield 30, 3) := by decide +kernel
theorem dX3_init_99 : decode cX3_init 99 = .ok (.arraylength, 1) := by decide +kernel
theorem dX3_init_100 : decode cX3_init 100 = .ok (.if_icmp .ge 17, 3) := by decide +kernel
theorem dX3_init_103 : decode cX3_init 103 = .ok (.aload_n 0, 1) := by decide +kernel
theorem dX3_init_104 : decode cX3_init 104 = .ok (.getfield 30, 3) := by decide +kernel
theorem dX3_init_107 : decode cX3_init 107 = .ok (.iload_n 1, 1) := by decide +kernel
theorem dX3_init_108 : decode cX3_init 108 = .ok (.bipush 100, 2) := by decide +kernel
theorem dX3_init_110 : decode cX3_init 110 = .ok (.iastore, 1) := by decide +kernel
theorem dX3_init_111 : decode cX3_init 111 = .ok (.iinc 1 1, 3) := by decide +kernel
theorem dX3_init_114 : decode cX3_init 114 = .ok (.goto (-20), 3) := by decide +kernel
theorem dX3_init_117 : decode cX3_init 117 = .ok (.return_, 1) := by decide +kernel
theorem dX3_clear_0 : decode cX3_clear 0 = .ok (.aload_n 0, 1) := by decide +kernel
theorem dX3_clear_1 : decode cX3_clear 1 = .ok (.iconst 0, 1) := by decide +kernel
theorem dX3_clear_2 : decode cX3_clear 2 = .ok (.putfield 33, 3) := by decide +kernel
theorem dX3_clear_5 : decode cX3_clear 5 = .ok (.aload_n 0, 1) := by decide +kernel
theorem dX3_clear_6 : decode cX3_clear 6 = .ok (.getfield 12, 3) := by decide +kernel
theorem dX3_clear_9 : decode cX3_clear 9 = .ok (.invokevirtual 37, 3) := by decide +kernel
theorem dX3_clear_12 : decode cX3_clear 12 = .ok (.iconst 0, 1) := by decide +kernel
theorem dX3_clear_13 : decode cX3_clear 13 = .ok (.istore_n 1, 1) := by decide +kernel
theorem dX3_clear_14 : decode cX3_clear 14 = .ok (.iload_n 1, 1) := by decide +kernel
theorem dX3_clear_15 : decode cX3_clear 15 = .ok (.iconst 4, 1) := by decide +kernel
theorem dX3_clear_16 : decode cX3_clear 16 = .ok (.if_icmp .ge 18, 3) := by decide +kernel
theorem dX3_clear_19 : decode cX3_clear 19 = .ok (.aload_n 0, 1) := by decide +kernel
theorem dX3_clear_20 : decode cX3_clear 20 = .ok (.getfield 18, 3) := by decide +kernel
theorem dX3_clear_23 : decode cX3_clear 23 = .ok (.iload_n 1, 1) := by decide +kernel
theorem dX3_clear_24 : decode cX3_clear 24 = .ok (.aaload, 1) := by decide +kernel
theorem dX3_clear_25 : decode cX3_clear 25 = .ok (.invokevirtual 37, 3) := by decide +kernel
theorem dX3_clear_28 : decode cX3_clear 28 = .ok (.iinc 1 1, 3) := by decide +kernel
theorem dX3_clear_31 : decode cX3_clear 31 = .ok (.goto (-17), 3) := by decide +kernel
theorem dX3_clear_34 : decode cX3_clear 34 = .ok (.iconst 0, 1) := by decide +kernel
theorem dX3_clear_35 : decode cX3_clear 35 = .ok (.istore_n 1, 1) := by decide +kernel
theorem dX3_clear_36 : decode cX3_clear 36 = .ok (.iload_n 1, 1) := by decide +kernel
theorem dX3_clear_37 : decode cX3_clear 37 = .ok (.iconst 4, 1) := by decide +kernel
theorem dX3_clear_38 : decode cX3_clear 38 = .ok (.if_icmp .ge 16, 3) := by decide +kernel
theorem dX3_clear_41 : decode cX3_clear 41 = .ok (.aload_n 0, 1) := by decide +kernel
theorem dX3_clear_42 : decode cX3_clear 42 = .ok (.getfield 22, 3) := by decide +kernel
theorem dX3_clear_45 : decode cX3_clear 45 = .ok (.iload_n 1, 1) := by decide +kernel
theorem dX3_clear_46 : decode cX3_clear 46 = .ok (.iconst (-1), 1) := by decide +kernel
theorem dX3_clear_47 : decode cX3_clear 47 = .ok (.iastore, 1) := by decide +kernel
theorem dX3_clear_48 : decode cX3_clear 48 = .ok (.iinc 1 1, 3) := by decide +kernel
theorem dX3_clear_51 : decode cX3_clear 51 = .ok (.goto (-15), 3) := by decide +kernel
theorem dX3_clear_54 : decode cX3_clear 54 = .ok (.iconst 0, 1) := by decide +kernel
theorem dX3_clear_55 : decode cX3_clear 55 = .ok (.istore_n 1, 1) := by decide +kernel
theorem dX3_clear_56 : decode cX3_clear 56 = .ok (.iload_n 1, 1) := by decide +kernel
theorem dX3_clear_57 : decode cX3_clear 57 = .ok (.bipush 64, 2) := by decide +kernel
theorem dX3_clear_59 : decode cX3_clear 59 = .ok (.if_icmp .ge 16, 3) := by decide +kernel
theorem dX3_clear_62 : decode cX3_clear 62 = .ok (.aload_n 0, 1) := by decide +kernel
theorem dX3_clear_63 : decode cX3_clear 63 = .ok (.getfield 26, 3) := by decide +kernel
theorem dX3_clear_66 : decode cX3_clear 66 = .ok (.iload_n 1, 1) := by decide +kernel
theorem dX3_clear_67 : decode cX3_clear 67 = .ok (.iconst 0, 1) := by decide +kernel
theorem dX3_clear_68 : decode cX3_clear 68 = .ok (.bastore, 1) := by decide +kernel
theorem dX3_clear_69 : decode cX3_clear 69 = .ok (.iinc 1 1, 3) := by decide +kernel
theorem dX3_clear_72 : decode cX3_clear 72 = .ok (.goto (-16), 3) := by decide +kernel
theorem dX3_clear_75 : decode cX3_clear 75 = .ok (.iconst 0, 1) := by decide +kernel
theorem dX3_clear_76 : decode cX3_clear 76 = .ok (.istore_n 1, 1) := by decide +kernel
theorem dX3_clear_77 : decode cX3_clear 77 = .ok (.iload_n 1, 1) := by decide +kernel
theorem dX3_clear_78 : decode cX3_clear 78 = .ok (.aload_n 0, 1) := by decide +kernel
theorem dX3_clear_79 : decode cX3_clear 79 = .ok (.getfield 30, 3) := by decide +kernel
theorem dX3_clear_82 : decode cX3_clear 82 = .ok (.arraylength, 1) := by decide +kernel
theorem dX3_clear_83 : decode cX3_clear 83 = .ok (.if_icmp .ge 16, 3) := by decide +kernel
theorem dX3_clear_86 : decode cX3_clear 86 = .ok (.aload_n 0, 1) := by decide +kernel
theorem dX3_clear_87 : decode cX3_clear 87 = .ok (.getfield 30, 3) := by decide +kernel
theorem dX3_clear_90 : decode cX3_clear 90 = .ok (.iload_n 1, 1) := by decide +kernel
theorem dX3_clear_91 : decode cX3_clear 91 = .ok (.iconst (-1), 1) := by decide +kernel
theorem dX3_clear_92 : decode cX3_clear 92 = .ok (.iastore, 1) := by decide +kernel
theorem dX3_clear_93 : decode cX3_clear 93 = .ok (.iinc 1 1, 3) := by decide +kernel
theorem dX3_clear_96 : decode cX3_clear 96 = .ok (.goto (-19), 3) := by decide +kernel
theorem dX3_clear_99 : decode cX3_clear 99 = .ok (.return_, 1) := by decide +kernel
theorem dX3_settle_0 : decode cX3_settle 0 = .ok (.aload_n 0, 1) := by decide +kernel
theorem dX3_settle_1 : decode cX3_settle 1 = .ok (.getfield 12, 3) := by decide +kernel
theorem dX3_settle_4 : decode cX3_settle 4 = .ok (.invokevirtual 40, 3) := by decide +kernel
theorem dX3_settle_7 : decode cX3_settle 7 = .ok (.iconst 0, 1) := by decide +kernel
theorem dX3_settle_8 : decode cX3_settle 8 = .ok (.istore_n 1, 1) := by decide +kernel
theorem dX3_settle_9 : decode cX3_settle 9 = .ok (.iload_n 1, 1) := by decide +kernel
theorem dX3_settle_10 : decode cX3_settle 10 = .ok (.iconst 4, 1) := by decide +kernel
theorem dX3_settle_11 : decode cX3_settle 11 = .ok (.if_icmp .ge 18, 3) := by decide +kernel
theorem dX3_settle_14 : decode cX3_settle 14 = .ok (.aload_n 0, 1) := by decide +kernel
theorem dX3_settle_15 : decode cX3_settle 15 = .ok (.getfield 18, 3) := by decide +kernel
theorem dX3_settle_18 : decode cX3_settle 18 = .ok (.iload_n 1, 1) := by decide +kernel
theorem dX3_settle_19 : decode cX3_settle 19 = .ok (.aaload, 1) := by decide +kernel
theorem dX3_settle_20 : decode cX3_settle 20 = .ok (.invokevirtual 40, 3) := by decide +kernel
theorem dX3_settle_23 : decode cX3_settle 23 = .ok (.iinc 1 1, 3) := by decide +kernel
theorem dX3_settle_26 : decode cX3_settle 26 = .ok (.goto (-17), 3) := by decide +kernel
theorem dX3_settle_29 : decode cX3_settle 29 = .ok (.iconst 0, 1) := by decide +kernel
theorem dX3_settle_30 : decode cX3_settle 30 = .ok (.istore_n 1, 1) := by decide +kernel
theorem dX3_settle_31 : decode cX3_settle 31 = .ok (.iload_n 1, 1) := by decide +kernel
theorem dX3_settle_32 : decode cX3_settle 32 = .ok (.iconst 4, 1) := by decide +kernel
theorem dX3_settle_33 : decode cX3_settle 33 = .ok (.if_icmp .ge 26, 3) := by decide +kernel
theorem dX3_settle_36 : decode cX3_settle 36 = .ok (.aload_n 0, 1) := by decide +kernel
theorem dX3_settle_37 : decode cX3_settle 37 = .ok (.getfield 22, 3) := by decide +kernel
theorem dX3_settle_40 : decode cX3_settle 40 = .ok (.iload_n 1, 1) := by decide +kernel
theorem dX3_settle_41 : decode cX3_settle 41 = .ok (.iaload, 1) := by decide +kernel
theorem dX3_settle_42 : decode cX3_settle 42 = .ok (.iconst (-1), 1) := by decide +kernel
theorem dX3_settle_43 : decode cX3_settle 43 = .ok (.if_icmp .ne 10, 3) := by decide +kernel
theorem dX3_settle_46 : decode cX3_settle 46 = .ok (.aload_n 0, 1) := by decide +kernel
theorem dX3_settle_47 : decode cX3_settle 47 = .ok (.getfield 22, 3) := by decide +kernel
theorem dX3_settle_50 : decode cX3_settle 50 = .ok (.iload_n 1, 1) := by decide +kernel
theorem dX3_settle_51 : decode cX3_settle 51 = .ok (.iconst 3, 1) := by decide +kernel
theorem dX3_settle_52 : decode cX3_settle 52 = .ok (.iastore, 1) := by decide +kernel
theorem dX3_settle_53 : decode cX3_settle 53 = .ok (.iinc 1 1, 3) := by decide +kernel
theorem dX3_settle_56 : decode cX3_settle 56 = .ok (.goto (-25), 3) := by decide +kernel
theorem dX3_settle_59 : decode cX3_settle 59 = .ok (.iconst 0, 1) := by decide +kernel
theorem dX3_settle_60 : decode cX3_settle 60 = .ok (.istore_n 1, 1) := by decide +kernel
theorem dX3_settle_61 : decode cX3_settle 61 = .ok (.iload_n 1, 1) := by decide +kernel
theorem dX3_settle_62 : decode cX3_settle 62 = .ok (.aload_n 0, 1) := by decide +kernel
theorem dX3_settle_63 : decode cX3_settle 63 = .ok (.getfield 30, 3) := by decide +kernel
theorem dX3_settle_66 : decode cX3_settle 66 = .ok (.arraylength, 1) := by decide +kernel
theorem dX3_settle_67 : decode cX3_settle 67 = .ok (.if_icmp .ge 45, 3) := by decide +kernel
theorem dX3_settle_70 : decode cX3_settle 70 = .ok (.aload_n 0, 1) := by decide +kernel
theorem dX3_settle_71 : decode cX3_settle 71 = .ok (.getfield 30, 3) := by decide +kernel
theorem dX3_settle_74 : decode cX3_settle 74 = .ok (.iload_n 1, 1) := by decide +kernel
theorem dX3_settle_75 : decode cX3_settle 75 = .ok (.iaload, 1) := by decide +kernel
theorem dX3_settle_76 : decode cX3_settle 76 = .ok (.iconst (-1), 1) := by decide +kernel
theorem dX3_settle_77 : decode cX3_settle 77 = .ok (.if_icmp .ne 29, 3) := by decide +kernel
theorem dX3_settle_80 : decode cX3_settle 80 = .ok (.aload_n 0, 1) := by decide +kernel
theorem dX3_settle_81 : decode cX3_settle 81 = .ok (.getfield 30, 3) := by decide +kernel
theorem dX3_settle_84 : decode cX3_settle 84 = .ok (.iload_n 1, 1) := by decide +kernel
theorem dX3_settle_85 : decode cX3_settle 85 = .ok (.iload_n 1, 1) := by decide +kernel
theorem dX3_settle_86 : decode cX3_settle 86 = .ok (.bipush 21, 2) := by decide +kernel
theorem dX3_settle_88 : decode cX3_settle 88 = .ok (.irem, 1) := by decide +kernel
theorem dX3_settle_89 : decode cX3_settle 89 = .ok (.ifCond .ne 8, 3) := by decide +kernel
theorem dX3_settle_92 : decode cX3_settle 92 = .ok (.bipush 100, 2) := by decide +kernel
theorem dX3_settle_94 : decode cX3_settle 94 = .ok (.goto 11, 3) := by decide +kernel
theorem dX3_settle_97 : decode cX3_settle 97 = .ok (.aload_n 0, 1) := by decide +kernel
theorem dX3_settle_98 : decode cX3_settle 98 = .ok (.getfield 30, 3) := by decide +kernel
theorem dX3_settle_101 : decode cX3_settle 101 = .ok (.iload_n 1, 1) := by decide +kernel
theorem dX3_settle_102 : decode cX3_settle 102 = .ok (.iconst 1, 1) := by decide +kernel
theorem dX3_settle_103 : decode cX3_settle 103 = .ok (.isub, 1) := by decide +kernel
theorem dX3_settle_104 : decode cX3_settle 104 = .ok (.iaload, 1) := by decide +kernel
theorem dX3_settle_105 : decode cX3_settle 105 = .ok (.iastore, 1) := by decide +kernel
theorem dX3_settle_106 : decode cX3_settle 106 = .ok (.iinc 1 1, 3) := by decide +kernel
theorem dX3_settle_109 : decode cX3_settle 109 = .ok (.goto (-48), 3) := by decide +kernel
theorem dX3_settle_112 : decode cX3_settle 112 = .ok (.return_, 1) := by decide +kernel
theorem dX3_lines_0 : decode cX3_lines 0 = .ok (.aload_n 0, 1) := by decide +kernel
theorem dX3_lines_1 : decode cX3_lines 1 = .ok (.getfield 33, 3) := by decide +kernel
theorem dX3_lines_4 : decode cX3_lines 4 = .ok (.ireturn, 1) := by decide +kernel
theorem dX3_countLine_0 : decode cX3_countLine 0 = .ok (.aload_n 0, 1) := by decide +kernel
theorem dX3_countLine_1 : decode cX3_countLine 1 = .ok (.dup, 1) := by decide +kernel
theorem dX3_countLine_2 : decode cX3_countLine 2 = .ok (.getfield 33, 3) := by decide +kernel
theorem dX3_countLine_5 : decode cX3_countLine 5 = .ok (.iconst 1, 1) := by decide +kernel
theorem dX3_countLine_6 : decode cX3_countLine 6 = .ok (.iadd, 1) := by decide +kernel
theorem dX3_countLine_7 : decode cX3_countLine 7 = .ok (.putfield 33, 3) := by decide +kernel
theorem dX3_countLine_10 : decode cX3_countLine 10 = .ok (.return_, 1) := by decide +kernel
theorem dX3_isWindTold_0 : decode cX3_isWindTold 0 = .ok (.aload_n 0, 1) := by decide +kernel
theorem dX3_isWindTold_1 : decode cX3_isWindTold 1 = .ok (.getfield 12, 3) := by decide +kernel
theorem dX3_isWindTold_4 : decode cX3_isWindTold 4 = .ok (.iload_n 1, 1) := by decide +kernel
theorem dX3_isWindTold_5 : decode cX3_isWindTold 5 = .ok (.invokevirtual 43, 3) := by decide +kernel
theorem dX3_isWindTold_8 : decode cX3_isWindTold 8 = .ok (.ireturn, 1) := by decide +kernel
theorem dX3_tellWind_0 : decode cX3_tellWind 0 = .ok (.aload_n 0, 1) := by decide +kernel
theorem dX3_tellWind_1 : decode cX3_tellWind 1 = .ok (.getfield 12, 3) := by decide +kernel
theorem dX3_tellWind_4 : decode cX3_tellWind 4 = .ok (.iload_n 1, 1) := by decide +kernel
theorem dX3_tellWind_5 : decode cX3_tellWind 5 = .ok (.iload_n 2, 1) := by decide +kernel
theorem dX3_tellWind_6 : decode cX3_tellWind 6 = .ok (.iload_n 3, 1) := by decide +kernel
theorem dX3_tellWind_7 : decode cX3_tellWind 7 = .ok (.invokevirtual 47, 3) := by decide +kernel
theorem dX3_tellWind_10 : decode cX3_tellWind 10 = .ok (.return_, 1) := by decide +kernel
theorem dX3_windOf_0 : decode cX3_windOf 0 = .ok (.aload_n 0, 1) := by decide +kernel
theorem dX3_windOf_1 : decode cX3_windOf 1 = .ok (.getfield 12, 3) := by decide +kernel
theorem dX3_windOf_4 : decode cX3_windOf 4 = .ok (.iload_n 1, 1) := by decide +kernel
theorem dX3_windOf_5 : decode cX3_windOf 5 = .ok (.iload_n 2, 1) := by decide +kernel
theorem dX3_windOf_6 : decode cX3_windOf 6 = .ok (.invokevirtual 51, 3) := by decide +kernel
theorem dX3_windOf_9 : decode cX3_windOf 9 = .ok (.ireturn, 1) := by decide +kernel
theorem dX3_isStreamTold_0 : decode cX3_isStreamTold 0 = .ok (.iload_n 1, 1) := by decide +kernel
theorem dX3_isStreamTold_1 : decode cX3_isStreamTold 1 = .ok (.invokestatic 55, 3) := by decide +kernel
theorem dX3_isStreamTold_4 : decode cX3_isStreamTold 4 = .ok (.ifCond .eq 20, 3) := by decide +kernel
theorem dX3_isStreamTold_7 : decode cX3_isStreamTold 7 = .ok (.aload_n 0, 1) := by decide +kernel
theorem dX3_isStreamTold_8 : decode cX3_isStreamTold 8 = .ok (.getfield 18, 3) := by decide +kernel
theorem dX3_isStreamTold_11 : decode cX3_isStreamTold 11 = .ok (.iload_n 1, 1) := by decide +kernel
theorem dX3_isStreamTold_12 : decode cX3_isStreamTold 12 = .ok (.aaload, 1) := by decide +kernel
theorem dX3_isStreamTold_13 : decode cX3_isStreamTold 13 = .ok (.iload_n 2, 1) := by decide +kernel
theorem dX3_isStreamTold_14 : decode cX3_isStreamTold 14 = .ok (.invokevirtual 43, 3) := by decide +kernel
theorem dX3_isStreamTold_17 : decode cX3_isStreamTold 17 = .ok (.ifCond .eq 7, 3) := by decide +kernel
theorem dX3_isStreamTold_20 : decode cX3_isStreamTold 20 = .ok (.iconst 1, 1) := by decide +kernel
theorem dX3_isStreamTold_21 : decode cX3_isStreamTold 21 = .ok (.goto 4, 3) := by decide +kernel
theorem dX3_isStreamTold_24 : decode cX3_isStreamTold 24 = .ok (.iconst 0, 1) := by decide +kernel
theorem dX3_isStreamTold_25 : decode cX3_isStreamTold 25 = .ok (.ireturn, 1) := by decide +kernel
theorem dX3_tellStream_0 : decode cX3_tellStream 0 = .ok (.iload_n 1, 1) := by decide +kernel
theorem dX3_tellStream_1 : decode cX3_tellStream 1 = .ok (.invokestatic 55, 3) := by decide +kernel
theorem dX3_tellStream_4 : decode cX3_tellStream 4 = .ok (.ifCond .eq 16, 3) := by decide +kernel
theorem dX3_tellStream_7 : decode cX3_tellStream 7 = .ok (.aload_n 0, 1) := by decide +kernel
theorem dX3_tellStream_8 : decode cX3_tellStream 8 = .ok (.getfield 18, 3) := by decide +kernel
theorem dX3_tellStream_11 : decode cX3_tellStream 11 = .ok (.iload_n 1, 1) := by decide +kernel
theorem dX3_tellStream_12 : decode cX3_tellStream 12 = .ok (.aaload, 1) := by decide +kernel
theorem dX3_tellStream_13 : decode cX3_tellStream 13 = .ok (.iload_n 2, 1) := by decide +kernel
theorem dX3_tellStream_14 : decode cX3_tellStream 14 = .ok (.iload_n 3, 1) := by decide +kernel
theorem dX3_tellStream_15 : decode cX3_tellStream 15 = .ok (.iload 4, 2) := by decide +kernel
theorem dX3_tellStream_17 : decode cX3_tellStream 17 = .ok (.invokevirtual 47, 3) := by decide +kernel
theorem dX3_tellStream_20 : decode cX3_tellStream 20 = .ok (.return_, 1) := by decide +kernel
theorem dX3_streamOf_0 : decode cX3_streamOf 0 = .ok (.iload_n 1, 1) := by decide +kernel
theorem dX3_streamOf_1 : decode cX3_streamOf 1 = .ok (.invokestatic 55, 3) := by decide +kernel
theorem dX3_streamOf_4 : decode cX3_streamOf 4 = .ok (.ifCond .eq 17, 3) := by decide +kernel
theorem dX3_streamOf_7 : decode cX3_streamOf 7 = .ok (.aload_n 0, 1) := by decide +kernel
theorem dX3_streamOf_8 : decode cX3_streamOf 8 = .ok (.getfield 18, 3) := by decide +kernel
theorem dX3_streamOf_11 : decode cX3_streamOf 11 = .ok (.iload_n 1, 1) := by decide +kernel
theorem dX3_streamOf_12 : decode cX3_streamOf 12 = .ok (.aaload, 1) := by decide +kernel
theorem dX3_streamOf_13 : decode cX3_streamOf 13 = .ok (.iload_n 2, 1) := by decide +kernel
theorem dX3_streamOf_14 : decode cX3_streamOf 14 = .ok (.iload_n 3, 1) := by decide +kernel
theorem dX3_streamOf_15 : decode cX3_streamOf 15 = .ok (.invokevirtual 51, 3) := by decide +kernel
theorem dX3_streamOf_18 : decode cX3_streamOf 18 = .ok (.goto 4, 3) := by decide +kernel
theorem dX3_streamOf_21 : decode cX3_streamOf 21 = .ok (.iconst 0, 1) := by decide +kernel
theorem dX3_streamOf_22 : decode cX3_streamOf 22 = .ok (.ireturn, 1) := by decide +kernel
theorem dX3_isLeeTold_0 : decode cX3_isLeeTold 0 = .ok (.iload_n 1, 1) := by decide +kernel
theorem dX3_isLeeTold_1 : decode cX3_isLeeTold 1 = .ok (.invokestatic 58, 3) := by decide +kernel
theorem dX3_isLeeTold_4 : decode cX3_isLeeTold 4 = .ok (.ifCond .eq 17, 3) := by decide +kernel
theorem dX3_isLeeTold_7 : decode cX3_isLeeTold 7 = .ok (.aload_n 0, 1) := by decide +kernel
theorem dX3_isLeeTold_8 : decode cX3_isLeeTold 8 = .ok (.getfield 22, 3) := by decide +kernel
theorem dX3_isLeeTold_11 : decode cX3_isLeeTold 11 = .ok (.iload_n 1, 1) := by decide +kernel
theorem dX3_isLeeTold_12 : decode cX3_isLeeTold 12 = .ok (.iaload, 1) := by decide +kernel
theorem dX3_isLeeTold_13 : decode cX3_isLeeTold 13 = .ok (.iconst (-1), 1) := by decide +kernel
theorem dX3_isLeeTold_14 : decode cX3_isLeeTold 14 = .ok (.if_icmp .eq 7, 3) := by decide +kernel
theorem dX3_isLeeTold_17 : decode cX3_isLeeTold 17 = .ok (.iconst 1, 1) := by decide +kernel
theorem dX3_isLeeTold_18 : decode cX3_isLeeTold 18 = .ok (.goto 4, 3) := by decide +kernel
theorem dX3_isLeeTold_21 : decode cX3_isLeeTold 21 = .ok (.iconst 0, 1) := by decide +kernel
theorem dX3_isLeeTold_22 : decode cX3_isLeeTold 22 = .ok (.ireturn, 1) := by decide +kernel
theorem dX3_tellLee_0 : decode cX3_tellLee 0 = .ok (.iload_n 1, 1) := by decide +kernel
theorem dX3_tellLee_1 : decode cX3_tellLee 1 = .ok (.invokestatic 58, 3) := by decide +kernel
theorem dX3_tellLee_4 : decode cX3_tellLee 4 = .ok (.ifCond .eq 10, 3) := by decide +kernel
theorem dX3_tellLee_7 : decode cX3_tellLee 7 = .ok (.aload_n 0, 1) := by decide +kernel
theorem dX3_tellLee_8 : decode cX3_tellLee 8 = .ok (.getfield 22, 3) := by decide +kernel
theorem dX3_tellLee_11 : decode cX3_tellLee 11 = .ok (.iload_n 1, 1) := by decide +kernel
theorem dX3_tellLee_12 : decode cX3_tellLee 12 = .ok (.iload_n 2, 1) := by decide +kernel
theorem dX3_tellLee_13 : decode cX3_tellLee 13 = .ok (.iastore, 1) := by decide +kernel
theorem dX3_tellLee_14 : decode cX3_tellLee 14 = .ok (.return_, 1) := by decide +kernel
theorem dX3_hasLand_0 : decode cX3_hasLand 0 = .ok (.iload_n 1, 1) := by decide +kernel
theorem dX3_hasLand_1 : decode cX3_hasLand 1 = .ok (.invokestatic 61, 3) := by decide +kernel
theorem dX3_hasLand_4 : decode cX3_hasLand 4 = .ok (.ifCond .eq 16, 3) := by decide +kernel
theorem dX3_hasLand_7 : decode cX3_hasLand 7 = .ok (.aload_n 0, 1) := by decide +kernel
theorem dX3_hasLand_8 : decode cX3_hasLand 8 = .ok (.getfield 26, 3) := by decide +kernel
theorem dX3_hasLand_11 : decode cX3_hasLand 11 = .ok (.iload_n 1, 1) := by decide +kernel
theorem dX3_hasLand_12 : decode cX3_hasLand 12 = .ok (.baload, 1) := by decide +kernel
theorem dX3_hasLand_13 : decode cX3_hasLand 13 = .ok (.ifCond .eq 7, 3) := by decide +kernel
theorem dX3_hasLand_16 : decode cX3_hasLand 16 = .ok (.iconst 1, 1) := by decide +kernel
theorem dX3_hasLand_17 : decode cX3_hasLand 17 = .ok (.goto 4, 3) := by decide +kernel
theorem dX3_hasLand_20 : decode cX3_hasLand 20 = .ok (.iconst 0, 1) := by decide +kernel
theorem dX3_hasLand_21 : decode cX3_hasLand 21 = .ok (.ireturn, 1) := by decide +kernel
theorem dX3_tellLand_0 : decode cX3_tellLand 0 = .ok (.iload_n 1, 1) := by decide +kernel
theorem dX3_tellLand_1 : decode cX3_tellLand 1 = .ok (.invokestatic 61, 3) := by decide +kernel
theorem dX3_tellLand_4 : decode cX3_tellLand 4 = .ok (.ifCond .eq 10, 3) := by decide +kernel
theorem dX3_tellLand_7 : decode cX3_tellLand 7 = .ok (.aload_n 0, 1) := by decide +kernel
theorem dX3_tellLand_8 : decode cX3_tellLand 8 = .ok (.getfield 26, 3) := by decide +kernel
theorem dX3_tellLand_11 : decode cX3_tellLand 11 = .ok (.iload_n 1, 1) := by decide +kernel
theorem dX3_tellLand_12 : decode cX3_tellLand 12 = .ok (.iconst 1, 1) := by decide +kernel
theorem dX3_tellLand_13 : decode cX3_tellLand 13 = .ok (.bastore, 1) := by decide +kernel
theorem dX3_tellLand_14 : decode cX3_tellLand 14 = .ok (.return_, 1) := by decide +kernel
theorem dX3_isMissTold_0 : decode cX3_isMissTold 0 = .ok (.iload_n 1, 1) := by decide +kernel
theorem dX3_isMissTold_1 : decode cX3_isMissTold 1 = .ok (.iload_n 2, 1) := by decide +kernel
theorem dX3_isMissTold_2 : decode cX3_isMissTold 2 = .ok (.bipush 20, 2) := by decide +kernel
theorem dX3_isMissTold_4 : decode cX3_isMissTold 4 = .ok (.invokestatic 64, 3) := by decide +kernel
theorem dX3_isMissTold_7 : decode cX3_isMissTold 7 = .ok (.ifCond .eq 22, 3) := by decide +kernel
theorem dX3_isMissTold_10 : decode cX3_isMissTold 10 = .ok (.aload_n 0, 1) := by decide +kernel
theorem dX3_isMissTold_11 : decode cX3_isMissTold 11 = .ok (.getfield 30, 3) := by decide +kernel
theorem dX3_isMissTold_14 : decode cX3_isMissTold 14 = .ok (.iload_n 1, 1) := by decide +kernel
theorem dX3_isMissTold_15 : decode cX3_isMissTold 15 = .ok (.bipush 21, 2) := by decide +kernel
theorem dX3_isMissTold_17 : decode cX3_isMissTold 17 = .ok (.imul, 1) := by decide +kernel
theorem dX3_isMissTold_18 : decode cX3_isMissTold 18 = .ok (.iload_n 2, 1) := by decide +kernel
theorem dX3_isMissTold_19 : decode cX3_isMissTold 19 = .ok (.iadd, 1) := by decide +kernel
theorem dX3_isMissTold_20 : decode cX3_isMissTold 20 = .ok (.iaload, 1) := by decide +kernel
theorem dX3_isMissTold_21 : decode cX3_isMissTold 21 = .ok (.iconst (-1), 1) := by decide +kernel
theorem dX3_isMissTold_22 : decode cX3_isMissTold 22 = .ok (.if_icmp .eq 7, 3) := by decide +kernel
theorem dX3_isMissTold_25 : decode cX3_isMissTold 25 = .ok (.iconst 1, 1) := by decide +kernel
theorem dX3_isMissTold_26 : decode cX3_isMissTold 26 = .ok (.goto 4, 3) := by decide +kernel
theorem dX3_isMissTold_29 : decode cX3_isMissTold 29 = .ok (.iconst 0, 1) := by decide +kernel
theorem dX3_isMissTold_30 : decode cX3_isMissTold 30 = .ok (.ireturn, 1) := by decide +kernel
theorem dX3_tellMiss_0 : decode cX3_tellMiss 0 = .ok (.iload_n 1, 1) := by decide +kernel
theorem dX3_tellMiss_1 : decode cX3_tellMiss 1 = .ok (.iload_n 2, 1) := by decide +kernel
theorem dX3_tellMiss_2 : decode cX3_tellMiss 2 = .ok (.bipush 20, 2) := by decide +kernel
theorem dX3_tellMiss_4 : decode cX3_tellMiss 4 = .ok (.invokestatic 64, 3) := by decide +kernel
theorem dX3_tellMiss_7 : decode cX3_tellMiss 7 = .ok (.ifCond .eq 15, 3) := by decide +kernel
theorem dX3_tellMiss_10 : decode cX3_tellMiss 10 = .ok (.aload_n 0, 1) := by decide +kernel
theorem dX3_tellMiss_11 : decode cX3_tellMiss 11 = .ok (.getfield 30, 3) := by decide +kernel
theorem dX3_tellMiss_14 : decode cX3_tellMiss 14 = .ok (.iload_n 1, 1) := by decide +kernel
theorem dX3_tellMiss_15 : decode cX3_tellMiss 15 = .ok (.bipush 21, 2) := by decide +kernel
theorem dX3_tellMiss_17 : decode cX3_tellMiss 17 = .ok (.imul, 1) := by decide +kernel
theorem dX3_tellMiss_18 : decode cX3_tellMiss 18 = .ok (.iload_n 2, 1) := by decide +kernel
theorem dX3_tellMiss_19 : decode cX3_tellMiss 19 = .ok (.iadd, 1) := by decide +kernel
theorem dX3_tellMiss_20 : decode cX3_tellMiss 20 = .ok (.iload_n 3, 1) := by decide +kernel
theorem dX3_tellMiss_21 : decode cX3_tellMiss 21 = .ok (.iastore, 1) := by decide +kernel
theorem dX3_tellMiss_22 : decode cX3_tellMiss 22 = .ok (.return_, 1) := by decide +kernel
theorem dX3_missOf_0 : decode cX3_missOf 0 = .ok (.iload_n 1, 1) := by decide +kernel
theorem dX3_missOf_1 : decode cX3_missOf 1 = .ok (.iload_n 2, 1) := by decide +kernel
theorem dX3_missOf_2 : decode cX3_missOf 2 = .ok (.bipush 20, 2) := by decide +kernel
theorem dX3_missOf_4 : decode cX3_missOf 4 = .ok (.invokestatic 64, 3) := by decide +kernel
theorem dX3_missOf_7 : decode cX3_missOf 7 = .ok (.ifCond .eq 17, 3) := by decide +kernel
theorem dX3_missOf_10 : decode cX3_missOf 10 = .ok (.aload_n 0, 1) := by decide +kernel
theorem dX3_missOf_11 : decode cX3_missOf 11 = .ok (.getfield 30, 3) := by decide +kernel
theorem dX3_missOf_14 : decode cX3_missOf 14 = .ok (.iload_n 1, 1) := by decide +kernel
theorem dX3_missOf_15 : decode cX3_missOf 15 = .ok (.bipush 21, 2) := by decide +kernel
theorem dX3_missOf_17 : decode cX3_missOf 17 = .ok (.imul, 1) := by decide +kernel
theorem dX3_missOf_18 : decode cX3_missOf 18 = .ok (.iload_n 2, 1) := by decide +kernel
theorem dX3_missOf_19 : decode cX3_missOf 19 = .ok (.iadd, 1) := by decide +kernel
theorem dX3_missOf_20 : decode cX3_missOf 20 = .ok (.iaload, 1) := by decide +kernel
theorem dX3_missOf_21 : decode cX3_missOf 21 = .ok (.goto 5, 3) := by decide +kernel
theorem dX3_missOf_24 : decode cX3_missOf 24 = .ok (.bipush 100, 2) := by decide +kernel
theorem dX3_missOf_26 : decode cX3_missOf 26 = .ok (.ireturn, 1) := by decide +kernel
theorem dX3_missFits_0 : decode cX3_missFits 0 = .ok (.iconst 1, 1) := by decide +kernel
theorem dX3_missFits_1 : decode cX3_missFits 1 = .ok (.istore 4, 2) := by decide +kernel
theorem dX3_missFits_3 : decode cX3_missFits 3 = .ok (.iload 4, 2) := by decide +kernel
theorem dX3_missFits_5 : decode cX3_missFits 5 = .ok (.iload_n 2, 1) := by decide +kernel
theorem dX3_missFits_6 : decode cX3_missFits 6 = .ok (.if_icmp .ge 32, 3) := by decide +kernel
theorem dX3_missFits_9 : decode cX3_missFits 9 = .ok (.aload_n 0, 1) := by decide +kernel
theorem dX3_missFits_10 : decode cX3_missFits 10 = .ok (.iload_n 1, 1) := by decide +kernel
theorem dX3_missFits_11 : decode cX3_missFits 11 = .ok (.iload 4, 2) := by decide +kernel
theorem dX3_missFits_13 : decode cX3_missFits 13 = .ok (.invokevirtual 68, 3) := by decide +kernel
theorem dX3_missFits_16 : decode cX3_missFits 16 = .ok (.ifCond .eq 16, 3) := by decide +kernel
theorem dX3_missFits_19 : decode cX3_missFits 19 = .ok (.iload_n 3, 1) := by decide +kernel
theorem dX3_missFits_20 : decode cX3_missFits 20 = .ok (.aload_n 0, 1) := by decide +kernel
theorem dX3_missFits_21 : decode cX3_missFits 21 = .ok (.iload_n 1, 1) := by decide +kernel
theorem dX3_missFits_22 : decode cX3_missFits 22 = .ok (.iload 4, 2) := by decide +kernel
theorem dX3_missFits_24 : decode cX3_missFits 24 = .ok (.invokevirtual 72, 3) := by decide +kernel
theorem dX3_missFits_27 : decode cX3_missFits 27 = .ok (.if_icmp .le 5, 3) := by decide +kernel
theorem dX3_missFits_30 : decode cX3_missFits 30 = .ok (.iconst 0, 1) := by decide +kernel
theorem dX3_missFits_31 : decode cX3_missFits 31 = .ok (.ireturn, 1) := by decide +kernel
theorem dX3_missFits_32 : decode cX3_missFits 32 = .ok (.iinc 4 1, 3) := by decide +kernel
theorem dX3_missFits_35 : decode cX3_missFits 35 = .ok (.goto (-32), 3) := by decide +kernel
theorem dX3_missFits_38 : decode cX3_missFits 38 = .ok (.iload_n 2, 1) := by decide +kernel
theorem dX3_missFits_39 : decode cX3_missFits 39 = .ok (.iconst 1, 1) := by decide +kernel
theorem dX3_missFits_40 : decode cX3_missFits 40 = .ok (.iadd, 1) := by decide +kernel
theorem dX3_missFits_41 : decode cX3_missFits 41 = .ok (.istore 4, 2) := by decide +kernel
theorem dX3_missFits_43 : decode cX3_missFits 43 = .ok (.iload 4, 2) := by decide +kernel
theorem dX3_missFits_45 : decode cX3_missFits 45 = .ok (.bipush 20, 2) := by decide +kernel
theorem dX3_missFits_47 : decode cX3_missFits 47 = .ok (.if_icmp .gt 32, 3) := by decide +kernel
theorem dX3_missFits_50 : decode cX3_missFits 50 = .ok (.aload_n 0, 1) := by decide +kernel
theorem dX3_missFits_51 : decode cX3_missFits 51 = .ok (.iload_n 1, 1) := by decide +kernel
theorem dX3_missFits_52 : decode cX3_missFits 52 = .ok (.iload 4, 2) := by decide +kernel
theorem dX3_missFits_54 : decode cX3_missFits 54 = .ok (.invokevirtual 68, 3) := by decide +kernel
theorem dX3_missFits_57 : decode cX3_missFits 57 = .ok (.ifCond .eq 16, 3) := by decide +kernel
theorem dX3_missFits_60 : decode cX3_missFits 60 = .ok (.iload_n 3, 1) := by decide +kernel
theorem dX3_missFits_61 : decode cX3_missFits 61 = .ok (.aload_n 0, 1) := by decide +kernel
theorem dX3_missFits_62 : decode cX3_missFits 62 = .ok (.iload_n 1, 1) := by decide +kernel
theorem dX3_missFits_63 : decode cX3_missFits 63 = .ok (.iload 4, 2) := by decide +kernel
theorem dX3_missFits_65 : decode cX3_missFits 65 = .ok (.invokevirtual 72, 3) := by decide +kernel
theorem dX3_missFits_68 : decode cX3_missFits 68 = .ok (.if_icmp .ge 5, 3) := by decide +kernel
theorem dX3_missFits_71 : decode cX3_missFits 71 = .ok (.iconst 0, 1) := by decide +kernel
theorem dX3_missFits_72 : decode cX3_missFits 72 = .ok (.ireturn, 1) := by decide +kernel
theorem dX3_missFits_73 : decode cX3_missFits 73 = .ok (.iinc 4 1, 3) := by decide +kernel
theorem dX3_missFits_76 : decode cX3_missFits 76 = .ok (.goto (-33), 3) := by decide +kernel
theorem dX3_missFits_79 : decode cX3_missFits 79 = .ok (.iconst 1, 1) := by decide +kernel
theorem dX3_missFits_80 : decode cX3_missFits 80 = .ok (.ireturn, 1) := by decide +kernel
theorem dX3_stepOf_0 : decode cX3_stepOf 0 = .ok (.iload_n 1, 1) := by decide +kernel
theorem dX3_stepOf_1 : decode cX3_stepOf 1 = .ok (.invokestatic 58, 3) := by decide +kernel
theorem dX3_stepOf_4 : decode cX3_stepOf 4 = .ok (.ifCond .eq 12, 3) := by decide +kernel
theorem dX3_stepOf_7 : decode cX3_stepOf 7 = .ok (.aload_n 0, 1) := by decide +kernel
theorem dX3_stepOf_8 : decode cX3_stepOf 8 = .ok (.getfield 22, 3) := by decide +kernel
theorem dX3_stepOf_11 : decode cX3_stepOf 11 = .ok (.iload_n 1, 1) := by decide +kernel
theorem dX3_stepOf_12 : decode cX3_stepOf 12 = .ok (.iaload, 1) := by decide +kernel
theorem dX3_stepOf_13 : decode cX3_stepOf 13 = .ok (.goto 4, 3) := by decide +kernel
theorem dX3_stepOf_16 : decode cX3_stepOf 16 = .ok (.iconst 0, 1) := by decide +kernel
theorem dX3_stepOf_17 : decode cX3_stepOf 17 = .ok (.istore 5, 2) := by decide +kernel
theorem dX3_stepOf_19 : decode cX3_stepOf 19 = .ok (.aload_n 0, 1) := by decide +kernel
theorem dX3_stepOf_20 : decode cX3_stepOf 20 = .ok (.iload_n 2, 1) := by decide +kernel
theorem dX3_stepOf_21 : decode cX3_stepOf 21 = .ok (.iload_n 3, 1) := by decide +kernel
theorem dX3_stepOf_22 : decode cX3_stepOf 22 = .ok (.iload 4, 2) := by decide +kernel
theorem dX3_stepOf_24 : decode cX3_stepOf 24 = .ok (.invokevirtual 76, 3) := by decide +kernel
theorem dX3_stepOf_27 : decode cX3_stepOf 27 = .ok (.aload_n 0, 1) := by decide +kernel
theorem dX3_stepOf_28 : decode cX3_stepOf 28 = .ok (.iload_n 3, 1) := by decide +kernel
theorem dX3_stepOf_29 : decode cX3_stepOf 29 = .ok (.iload 4, 2) := by decide +kernel
theorem dX3_stepOf_31 : decode cX3_stepOf 31 = .ok (.invokevirtual 80, 3) := by decide +kernel
theorem dX3_stepOf_34 : decode cX3_stepOf 34 = .ok (.iload 5, 2) := by decide +kernel
theorem dX3_stepOf_36 : decode cX3_stepOf 36 = .ok (.imul, 1) := by decide +kernel
theorem dX3_stepOf_37 : decode cX3_stepOf 37 = .ok (.bipush 100, 2) := by decide +kernel
theorem dX3_stepOf_39 : decode cX3_stepOf 39 = .ok (.idiv, 1) := by decide +kernel
theorem dX3_stepOf_40 : decode cX3_stepOf 40 = .ok (.iadd, 1) := by decide +kernel
theorem dX3_stepOf_41 : decode cX3_stepOf 41 = .ok (.ireturn, 1) := by decide +kernel
theorem dX4_init_0 : decode cX4_init 0 = .ok (.aload_n 0, 1) := by decide +kernel
theorem dX4_init_1 : decode cX4_init 1 = .ok (.invokespecial 3, 3) := by decide +kernel
theorem dX4_init_4 : decode cX4_init 4 = .ok (.aload_n 0, 1) := by decide +kernel
theorem dX4_init_5 : decode cX4_init 5 = .ok (.iconst 4, 1) := by decide +kernel
theorem dX4_init_6 : decode cX4_init 6 = .ok (.newarray .int, 2) := by decide +kernel
theorem dX4_init_8 : decode cX4_init 8 = .ok (.putfield 11, 3) := by decide +kernel
theorem dX4_init_11 : decode cX4_init 11 = .ok (.aload_n 0, 1) := by decide +kernel
theorem dX4_init_12 : decode cX4_init 12 = .ok (.iconst (-1), 1) := by decide +kernel
theorem dX4_init_13 : decode cX4_init 13 = .ok (.putfield 15, 3) := by decide +kernel
theorem dX4_init_16 : decode cX4_init 16 = .ok (.aload_n 0, 1) := by decide +kernel
theorem dX4_init_17 : decode cX4_init 17 = .ok (.new 19, 3) := by decide +kernel
theorem dX4_init_20 : decode cX4_init 20 = .ok (.dup, 1) := by decide +kernel
theorem dX4_init_21 : decode cX4_init 21 = .ok (.aload_n 1, 1) := by decide +kernel
theorem dX4_init_22 : decode cX4_init 22 = .ok (.invokespecial 21, 3) := by decide +kernel
theorem dX4_init_25 : decode cX4_init 25 = .ok (.putfield 24, 3) := by decide +kernel
theorem dX4_init_28 : decode cX4_init 28 = .ok (.return_, 1) := by decide +kernel
theorem dX4_foundFault_0 : decode cX4_foundFault 0 = .ok (.aload_n 0, 1) := by decide +kernel
theorem dX4_foundFault_1 : decode cX4_foundFault 1 = .ok (.getfield 28, 3) := by decide +kernel
theorem dX4_foundFault_4 : decode cX4_foundFault 4 = .ok (.ireturn, 1) := by decide +kernel
theorem dX4_foundAt_0 : decode cX4_foundAt 0 = .ok (.aload_n 0, 1) := by decide +kernel
theorem dX4_foundAt_1 : decode cX4_foundAt 1 = .ok (.getfield 15, 3) := by decide +kernel
theorem dX4_foundAt_4 : decode cX4_foundAt 4 = .ok (.ireturn, 1) := by decide +kernel
theorem dX4_readInto_0 : decode cX4_readInto 0 = .ok (.aload_n 0, 1) := by decide +kernel
theorem dX4_readInto_1 : decode cX4_readInto 1 = .ok (.iconst 0, 1) := by decide +kernel
theorem dX4_readInto_2 : decode cX4_readInto 2 = .ok (.putfield 28, 3) := by decide +kernel
theorem dX4_readInto_5 : decode cX4_readInto 5 = .ok (.aload_n 0, 1) := by decide +kernel
theorem dX4_readInto_6 : decode cX4_readInto 6 = .ok (.iconst (-1), 1) := by decide +kernel
theorem dX4_readInto_7 : decode cX4_readInto 7 = .ok (.putfield 15, 3) := by decide +kernel
theorem dX4_readInto_10 : decode cX4_readInto 10 = .ok (.aload_n 1, 1) := by decide +kernel
theorem dX4_readInto_11 : decode cX4_readInto 11 = .ok (.invokevirtual 31, 3) := by decide +kernel
theorem dX4_readInto_14 : decode cX4_readInto 14 = .ok (.aload_n 0, 1) := by decide +kernel
theorem dX4_readInto_15 : decode cX4_readInto 15 = .ok (.getfield 24, 3) := by decide +kernel
theorem dX4_readInto_18 : decode cX4_readInto 18 = .ok (.invokevirtual 36, 3) := by decide +kernel
theorem dX4_readInto_21 : decode cX4_readInto 21 = .ok (.aload_n 0, 1) := by decide +kernel
theorem dX4_readInto_22 : decode cX4_readInto 22 = .ok (.getfield 24, 3) := by decide +kernel
theorem dX4_readInto_25 : decode cX4_readInto 25 = .ok (.invokevirtual 39, 3) := by decide +kernel
theorem dX4_readInto_28 : decode cX4_readInto 28 = .ok (.iconst 0, 1) := by decide +kernel
theorem dX4_readInto_29 : decode cX4_readInto 29 = .ok (.istore_n 2, 1) := by decide +kernel
theorem dX4_readInto_30 : decode cX4_readInto 30 = .ok (.iload_n 2, 1) := by decide +kernel
theorem dX4_readInto_31 : decode cX4_readInto 31 = .ok (.bipush 60, 2) := by decide +kernel
theorem dX4_readInto_33 : decode cX4_readInto 33 = .ok (.if_icmp .gt 45, 3) := by decide +kernel
theorem dX4_readInto_36 : decode cX4_readInto 36 = .ok (.aload_n 0, 1) := by decide +kernel
theorem dX4_readInto_37 : decode cX4_readInto 37 = .ok (.getfield 28, 3) := by decide +kernel
theorem dX4_readInto_40 : decode cX4_readInto 40 = .ok (.ifCond .ne 38, 3) := by decide +kernel
theorem dX4_readInto_43 : decode cX4_readInto 43 = .ok (.aload_n 0, 1) := by decide +kernel
theorem dX4_readInto_44 : decode cX4_readInto 44 = .ok (.getfield 24, 3) := by decide +kernel
theorem dX4_readInto_47 : decode cX4_readInto 47 = .ok (.invokevirtual 42, 3) := by decide +kernel
theorem dX4_readInto_50 : decode cX4_readInto 50 = .ok (.iconst 1, 1) := by decide +kernel
theorem dX4_readInto_51 : decode cX4_readInto 51 = .ok (.if_icmp .ne 9, 3) := by decide +kernel
theorem dX4_readInto_54 : decode cX4_readInto 54 = .ok (.aload_n 1, 1) := by decide +kernel
theorem dX4_readInto_55 : decode cX4_readInto 55 = .ok (.invokevirtual 46, 3) := by decide +kernel
theorem dX4_readInto_58 : decode cX4_readInto 58 = .ok (.iconst 1, 1) := by decide +kernel
theorem dX4_readInto_59 : decode cX4_readInto 59 = .ok (.ireturn, 1) := by decide +kernel
theorem dX4_readInto_60 : decode cX4_readInto 60 = .ok (.aload_n 0, 1) := by decide +kernel
theorem dX4_readInto_61 : decode cX4_readInto 61 = .ok (.aload_n 1, 1) := by decide +kernel
theorem dX4_readInto_62 : decode cX4_readInto 62 = .ok (.invokevirtual 49, 3) := by decide +kernel
theorem dX4_readInto_65 : decode cX4_readInto 65 = .ok (.aload_n 0, 1) := by decide +kernel
theorem dX4_readInto_66 : decode cX4_readInto 66 = .ok (.getfield 24, 3) := by decide +kernel
theorem dX4_readInto_69 : decode cX4_readInto 69 = .ok (.invokevirtual 39, 3) := by decide +kernel
theorem dX4_readInto_72 : decode cX4_readInto 72 = .ok (.iinc 2 1, 3) := by decide +kernel
theorem dX4_readInto_75 : decode cX4_readInto 75 = .ok (.goto (-45), 3) := by decide +kernel
theorem dX4_readInto_78 : decode cX4_readInto 78 = .ok (.iconst 0, 1) := by decide +kernel
theorem dX4_readInto_79 : decode cX4_readInto 79 = .ok (.ireturn, 1) := by decide +kernel
theorem dX4_readLine_0 : decode cX4_readLine 0 = .ok (.aload_n 0, 1) := by decide +kernel
theorem dX4_readLine_1 : decode cX4_readLine 1 = .ok (.iconst 2, 1) := by decide +kernel
theorem dX4_readLine_2 : decode cX4_readLine 2 = .ok (.invokevirtual 53, 3) := by decide +kernel
theorem dX4_readLine_5 : decode cX4_readLine 5 = .ok (.ifCond .ne 4, 3) := by decide +kernel
theorem dX4_readLine_8 : decode cX4_readLine 8 = .ok (.return_, 1) := by decide +kernel
theorem dX4_readLine_9 : decode cX4_readLine 9 = .ok (.aload_n 0, 1) := by decide +kernel
theorem dX4_readLine_10 : decode cX4_readLine 10 = .ok (.invokevirtual 57, 3) := by decide +kernel
theorem dX4_readLine_13 : decode cX4_readLine 13 = .ok (.istore_n 2, 1) := by decide +kernel
theorem dX4_readLine_14 : decode cX4_readLine 14 = .ok (.iload_n 2, 1) := by decide +kernel
theorem dX4_readLine_15 : decode cX4_readLine 15 = .ok (.iconst (-1), 1) := by decide +kernel
theorem dX4_readLine_16 : decode cX4_readLine 16 = .ok (.if_icmp .eq 12, 3) := by decide +kernel
theorem dX4_readLine_19 : decode cX4_readLine 19 = .ok (.aload_n 1, 1) := by decide +kernel
theorem dX4_readLine_20 : decode cX4_readLine 20 = .ok (.invokevirtual 60, 3) := by decide +kernel
theorem dX4_readLine_23 : decode cX4_readLine 23 = .ok (.bipush 60, 2) := by decide +kernel
theorem dX4_readLine_25 : decode cX4_readLine 25 = .ok (.if_icmp .lt 9, 3) := by decide +kernel
theorem dX4_readLine_28 : decode cX4_readLine 28 = .ok (.aload_n 0, 1) := by decide +kernel
theorem dX4_readLine_29 : decode cX4_readLine 29 = .ok (.iconst 2, 1) := by decide +kernel
theorem dX4_readLine_30 : decode cX4_readLine 30 = .ok (.invokevirtual 63, 3) := by decide +kernel
theorem dX4_readLine_33 : decode cX4_readLine 33 = .ok (.return_, 1) := by decide +kernel
theorem dX4_readLine_34 : decode cX4_readLine 34 = .ok (.iconst 0, 1) := by decide +kernel
theorem dX4_readLine_35 : decode cX4_readLine 35 = .ok (.istore_n 3, 1) := by decide +kernel
theorem dX4_readLine_36 : decode cX4_readLine 36 = .ok (.iload_n 3, 1) := by decide +kernel
theorem dX4_readLine_37 : decode cX4_readLine 37 = .ok (.getstatic 67, 3) := by decide +kernel
theorem dX4_readLine_40 : decode cX4_readLine 40 = .ok (.iload_n 2, 1) := by decide +kernel
theorem dX4_readLine_41 : decode cX4_readLine 41 = .ok (.iaload, 1) := by decide +kernel
theorem dX4_readLine_42 : decode cX4_readLine 42 = .ok (.if_icmp .ge 23, 3) := by decide +kernel
theorem dX4_readLine_45 : decode cX4_readLine 45 = .ok (.aload_n 0, 1) := by decide +kernel
theorem dX4_readLine_46 : decode cX4_readLine 46 = .ok (.getfield 28, 3) := by decide +kernel
theorem dX4_readLine_49 : decode cX4_readLine 49 = .ok (.ifCond .ne 16, 3) := by decide +kernel
theorem dX4_readLine_52 : decode cX4_readLine 52 = .ok (.aload_n 0, 1) := by decide +kernel
theorem dX4_readLine_53 : decode cX4_readLine 53 = .ok (.aload_n 1, 1) := by decide +kernel
theorem dX4_readLine_54 : decode cX4_readLine 54 = .ok (.iload_n 2, 1) := by decide +kernel
theorem dX4_readLine_55 : decode cX4_readLine 55 = .ok (.iload_n 3, 1) := by decide +kernel
theorem dX4_readLine_56 : decode cX4_readLine 56 = .ok (.invokevirtual 70, 3) := by decide +kernel
theorem dX4_readLine_59 : decode cX4_readLine 59 = .ok (.iinc 3 1, 3) := by decide +kernel
theorem dX4_readLine_62 : decode cX4_readLine 62 = .ok (.goto (-26), 3) := by decide +kernel
theorem dX4_readLine_65 : decode cX4_readLine 65 = .ok (.aload_n 0, 1) := by decide +kernel
theorem dX4_readLine_66 : decode cX4_readLine 66 = .ok (.getfield 28, 3) := by decide +kernel
theorem dX4_readLine_69 : decode cX4_readLine 69 = .ok (.ifCond .ne 10, 3) := by decide +kernel
theorem dX4_readLine_72 : decode cX4_readLine 72 = .ok (.aload_n 0, 1) := by decide +kernel
theorem dX4_readLine_73 : decode cX4_readLine 73 = .ok (.getfield 24, 3) := by decide +kernel
theorem dX4_readLine_76 : decode cX4_readLine 76 = .ok (.invokevirtual 39, 3) := by decide +kernel
theorem dX4_readLine_79 : decode cX4_readLine 79 = .ok (.aload_n 0, 1) := by decide +kernel
theorem dX4_readLine_80 : decode cX4_readLine 80 = .ok (.getfield 28, 3) := by decide +kernel
theorem dX4_readLine_83 : decode cX4_readLine 83 = .ok (.ifCond .ne 17, 3) := by decide +kernel
theorem dX4_readLine_86 : decode cX4_readLine 86 = .ok (.aload_n 0, 1) := by decide +kernel
theorem dX4_readLine_87 : decode cX4_readLine 87 = .ok (.iconst 4, 1) := by decide +kernel
theorem dX4_readLine_88 : decode cX4_readLine 88 = .ok (.invokevirtual 53, 3) := by decide +kernel
theorem dX4_readLine_91 : decode cX4_readLine 91 = .ok (.ifCond .eq 9, 3) := by decide +kernel
theorem dX4_readLine_94 : decode cX4_readLine 94 = .ok (.aload_n 0, 1) := by decide +kernel
theorem dX4_readLine_95 : decode cX4_readLine 95 = .ok (.aload_n 1, 1) := by decide +kernel
theorem dX4_readLine_96 : decode cX4_readLine 96 = .ok (.iload_n 2, 1) := by decide +kernel
theorem dX4_readLine_97 : decode cX4_readLine 97 = .ok (.invokevirtual 74, 3) := by decide +kernel
theorem dX4_readLine_100 : decode cX4_readLine 100 = .ok (.return_, 1) := by decide +kernel
theorem dX4_sortOfWord_0 : decode cX4_sortOfWord 0 = .ok (.aload_n 0, 1) := by decide +kernel
theorem dX4_sortOfWord_1 : decode cX4_sortOfWord 1 = .ok (.getfield 24, 3) := by decide +kernel
theorem dX4_sortOfWord_4 : decode cX4_sortOfWord 4 = .ok (.ldc 78, 2) := by decide +kernel
theorem dX4_sortOfWord_6 : decode cX4_sortOfWord 6 = .ok (.invokevirtual 80, 3) := by decide +kernel
theorem dX4_sortOfWord_9 : decode cX4_sortOfWord 9 = .ok (.ifCond .eq 7, 3) := by decide +kernel
theorem dX4_sortOfWord_12 : decode cX4_sortOfWord 12 = .ok (.iconst 0, 1) := by decide +kernel
theorem dX4_sortOfWord_13 : decode cX4_sortOfWord 13 = .ok (.goto 68, 3) := by decide +kernel
theorem dX4_sortOfWord_16 : decode cX4_sortOfWord 16 = .ok (.aload_n 0, 1) := by decide +kernel
theorem dX4_sortOfWord_17 : decode cX4_sortOfWord 17 = .ok (.getfield 24, 3) := by decide +kernel
theorem dX4_sortOfWord_20 : decode cX4_sortOfWord 20 = .ok (.ldc 84, 2) := by decide +kernel
theorem dX4_sortOfWord_22 : decode cX4_sortOfWord 22 = .ok (.invokevirtual 80, 3) := by decide +kernel
theorem dX4_sortOfWord_25 : decode cX4_sortOfWord 25 = .ok (.ifCond .eq 7, 3) := by decide +kernel
theorem dX4_sortOfWord_28 : decode cX4_sortOfWord 28 = .ok (.iconst 1, 1) := by decide +kernel
theorem dX4_sortOfWord_29 : decode cX4_sortOfWord 29 = .ok (.goto 52, 3) := by decide +kernel
theorem dX4_sortOfWord_32 : decode cX4_sortOfWord 32 = .ok (.aload_n 0, 1) := by decide +kernel
theorem dX4_sortOfWord_33 : decode cX4_sortOfWord 33 = .ok (.getfield 24, 3) := by decide +kernel
theorem dX4_sortOfWord_36 : decode cX4_sortOfWord 36 = .ok (.ldc 86, 2) := by decide +kernel
theorem dX4_sortOfWord_38 : decode cX4_sortOfWord 38 = .ok (.invokevirtual 80, 3) := by decide +kernel
theorem dX4_sortOfWord_41 : decode cX4_sortOfWord 41 = .ok (.ifCond .eq 7, 3) := by decide +kernel
theorem dX4_sortOfWord_44 : decode cX4_sortOfWord 44 = .ok (.iconst 2, 1) := by decide +kernel
theorem dX4_sortOfWord_45 : decode cX4_sortOfWord 45 = .ok (.goto 36, 3) := by decide +kernel
theorem dX4_sortOfWord_48 : decode cX4_sortOfWord 48 = .ok (.aload_n 0, 1) := by decide +kernel
theorem dX4_sortOfWord_49 : decode cX4_sortOfWord 49 = .ok (.getfield 24, 3) := by decide +kernel
theorem dX4_sortOfWord_52 : decode cX4_sortOfWord 52 = .ok (.ldc 88, 2) := by decide +kernel
theorem dX4_sortOfWord_54 : decode cX4_sortOfWord 54 = .ok (.invokevirtual 80, 3) := by decide +kernel
theorem dX4_sortOfWord_57 : decode cX4_sortOfWord 57 = .ok (.ifCond .eq 7, 3) := by decide +kernel
theorem dX4_sortOfWord_60 : decode cX4_sortOfWord 60 = .ok (.iconst 3, 1) := by decide +kernel
theorem dX4_sortOfWord_61 : decode cX4_sortOfWord 61 = .ok (.goto 20, 3) := by decide +kernel
theorem dX4_sortOfWord_64 : decode cX4_sortOfWord 64 = .ok (.aload_n 0, 1) := by decide +kernel
theorem dX4_sortOfWord_65 : decode cX4_sortOfWord 65 = .ok (.getfield 24, 3) := by decide +kernel
theorem dX4_sortOfWord_68 : decode cX4_sortOfWord 68 = .ok (.ldc 90, 2) := by decide +kernel
theorem dX4_sortOfWord_70 : decode cX4_sortOfWord 70 = .ok (.invokevirtual 80, 3) := by decide +kernel
theorem dX4_sortOfWord_73 : decode cX4_sortOfWord 73 = .ok (.ifCond .eq 7, 3) := by decide +kernel
theorem dX4_sortOfWord_76 : decode cX4_sortOfWord 76 = .ok (.iconst 4, 1) := by decide +kernel
theorem dX4_sortOfWord_77 : decode cX4_sortOfWord 77 = .ok (.goto 4, 3) := by decide +kernel
theorem dX4_sortOfWord_80 : decode cX4_sortOfWord 80 = .ok (.iconst (-1), 1) := by decide +kernel
theorem dX4_sortOfWord_81 : decode cX4_sortOfWord 81 = .ok (.ireturn, 1) := by decide +kernel
theorem dX4_readNumber_0 : decode cX4_readNumber 0 = .ok (.aload_n 0, 1) := by decide +kernel
theorem dX4_readNumber_1 : decode cX4_readNumber 1 = .ok (.getfield 24, 3) := by decide +kernel
theorem dX4_readNumber_4 : decode cX4_readNumber 4 = .ok (.invokevirtual 39, 3) := by decide +kernel
theorem dX4_readNumber_7 : decode cX4_readNumber 7 = .ok (.aload_n 0, 1) := by decide +kernel
theorem dX4_readNumber_8 : decode cX4_readNumber 8 = .ok (.iconst 3, 1) := by decide +kernel
theorem dX4_readNumber_9 : decode cX4_readNumber 9 = .ok (.invokevirtual 53, 3) := by decide +kernel
theorem dX4_readNumber_12 : decode cX4_readNumber 12 = .ok (.ifCond .ne 4, 3) := by decide +kernel
theorem dX4_readNumber_15 : decode cX4_readNumber 15 = .ok (.return_, 1) := by decide +kernel
theorem dX4_readNumber_16 : decode cX4_readNumber 16 = .ok (.iload_n 2, 1) := by decide +kernel
theorem dX4_readNumber_17 : decode cX4_readNumber 17 = .ok (.iconst 4, 1) := by decide +kernel
theorem dX4_readNumber_18 : decode cX4_readNumber 18 = .ok (.imul, 1) := by decide +kernel
theorem dX4_readNumber_19 : decode cX4_readNumber 19 = .ok (.iload_n 3, 1) := by decide +kernel
theorem dX4_readNumber_20 : decode cX4_readNumber 20 = .ok (.iadd, 1) := by decide +kernel
theorem dX4_readNumber_21 : decode cX4_readNumber 21 = .ok (.istore 4, 2) := by decide +kernel
theorem dX4_readNumber_23 : decode cX4_readNumber 23 = .ok (.aload_n 0, 1) := by decide +kernel
theorem dX4_readNumber_24 : decode cX4_readNumber 24 = .ok (.getfield 11, 3) := by decide +kernel
theorem dX4_readNumber_27 : decode cX4_readNumber 27 = .ok (.iload_n 3, 1) := by decide +kernel
theorem dX4_readNumber_28 : decode cX4_readNumber 28 = .ok (.aload_n 0, 1) := by decide +kernel
theorem dX4_readNumber_29 : decode cX4_readNumber 29 = .ok (.getfield 24, 3) := by decide +kernel
theorem dX4_readNumber_32 : decode cX4_readNumber 32 = .ok (.invokevirtual 92, 3) := by decide +kernel
theorem dX4_readNumber_35 : decode cX4_readNumber 35 = .ok (.iastore, 1) := by decide +kernel
theorem dX4_readNumber_36 : decode cX4_readNumber 36 = .ok (.aload_n 0, 1) := by decide +kernel
theorem dX4_readNumber_37 : decode cX4_readNumber 37 = .ok (.getfield 11, 3) := by decide +kernel
theorem dX4_readNumber_40 : decode cX4_readNumber 40 = .ok (.iload_n 3, 1) := by decide +kernel
theorem dX4_readNumber_41 : decode cX4_readNumber 41 = .ok (.iaload, 1) := by decide +kernel
theorem dX4_readNumber_42 : decode cX4_readNumber 42 = .ok (.getstatic 95, 3) := by decide +kernel
theorem dX4_readNumber_45 : decode cX4_readNumber 45 = .ok (.iload 4, 2) := by decide +kernel
theorem dX4_readNumber_47 : decode cX4_readNumber 47 = .ok (.iaload, 1) := by decide +kernel
theorem dX4_readNumber_48 : decode cX4_readNumber 48 = .ok (.getstatic 98, 3) := by decide +kernel
theorem dX4_readNumber_51 : decode cX4_readNumber 51 = .ok (.iload 4, 2) := by decide +kernel
theorem dX4_readNumber_53 : decode cX4_readNumber 53 = .ok (.iaload, 1) := by decide +kernel
theorem dX4_readNumber_54 : decode cX4_readNumber 54 = .ok (.invokestatic 101, 3) := by decide +kernel
theorem dX4_readNumber_57 : decode cX4_readNumber 57 = .ok (.ifCond .ne 11, 3) := by decide +kernel
theorem dX4_readNumber_60 : decode cX4_readNumber 60 = .ok (.aload_n 0, 1) := by decide +kernel
theorem dX4_readNumber_61 : decode cX4_readNumber 61 = .ok (.iconst 3, 1) := by decide +kernel
theorem dX4_readNumber_62 : decode cX4_readNumber 62 = .ok (.invokevirtual 63, 3) := by decide +kernel
theorem dX4_readNumber_65 : decode cX4_readNumber 65 = .ok (.goto 71, 3) := by decide +kernel
theorem dX4_readNumber_68 : decode cX4_readNumber 68 = .ok (.iload_n 3, 1) := by decide +kernel
theorem dX4_readNumber_69 : decode cX4_readNumber 69 = .ok (.getstatic 105, 3) := by decide +kernel
theorem dX4_readNumber_72 : decode cX4_readNumber 72 = .ok (.iload_n 2, 1) := by decide +kernel
theorem dX4_readNumber_73 : decode cX4_readNumber 73 = .ok (.iaload, 1) := by decide +kernel
theorem dX4_readNumber_74 : decode cX4_readNumber 74 = .ok (.iconst 1, 1) := by decide +kernel
theorem dX4_readNumber_75 : decode cX4_readNumber 75 = .ok (.isub, 1) := by decide +kernel
theorem dX4_readNumber_76 : decode cX4_readNumber 76 = .ok (.if_icmp .ne 20, 3) := by decide +kernel
theorem dX4_readNumber_79 : decode cX4_readNumber 79 = .ok (.aload_n 0, 1) := by decide +kernel
theorem dX4_readNumber_80 : decode cX4_readNumber 80 = .ok (.aload_n 1, 1) := by decide +kernel
theorem dX4_readNumber_81 : decode cX4_readNumber 81 = .ok (.iload_n 2, 1) := by decide +kernel
theorem dX4_readNumber_82 : decode cX4_readNumber 82 = .ok (.invokevirtual 108, 3) := by decide +kernel
theorem dX4_readNumber_85 : decode cX4_readNumber 85 = .ok (.ifCond .eq 11, 3) := by decide +kernel
theorem dX4_readNumber_88 : decode cX4_readNumber 88 = .ok (.aload_n 0, 1) := by decide +kernel
theorem dX4_readNumber_89 : decode cX4_readNumber 89 = .ok (.iconst 4, 1) := by decide +kernel
theorem dX4_readNumber_90 : decode cX4_readNumber 90 = .ok (.invokevirtual 63, 3) := by decide +kernel
theorem dX4_readNumber_93 : decode cX4_readNumber 93 = .ok (.goto 43, 3) := by decide +kernel
theorem dX4_readNumber_96 : decode cX4_readNumber 96 = .ok (.iload_n 2, 1) := by decide +kernel
theorem dX4_readNumber_97 : decode cX4_readNumber 97 = .ok (.iconst 4, 1) := by decide +kernel
theorem dX4_readNumber_98 : decode cX4_readNumber 98 = .ok (.if_icmp .ne 38, 3) := by decide +kernel
theorem dX4_readNumber_101 : decode cX4_readNumber 101 = .ok (.iload_n 3, 1) := by decide +kernel
theorem dX4_readNumber_102 : decode cX4_readNumber 102 = .ok (.iconst 2, 1) := by decide +kernel
theorem dX4_readNumber_103 : decode cX4_readNumber 103 = .ok (.if_icmp .ne 33, 3) := by decide +kernel
theorem dX4_readNumber_106 : decode cX4_readNumber 106 = .ok (.aload_n 1, 1) := by decide +kernel
theorem dX4_readNumber_107 : decode cX4_readNumber 107 = .ok (.aload_n 0, 1) := by decide +kernel
theorem dX4_readNumber_108 : decode cX4_readNumber 108 = .ok (.getfield 11, 3) := by decide +kernel
theorem dX4_readNumber_111 : decode cX4_readNumber 111 = .ok (.iconst 0, 1) := by decide +kernel
theorem dX4_readNumber_112 : decode cX4_readNumber 112 = .ok (.iaload, 1) := by decide +kernel
theorem dX4_readNumber_113 : decode cX4_readNumber 113 = .ok (.aload_n 0, 1) := by decide +kernel
theorem dX4_readNumber_114 : decode cX4_readNumber 114 = .ok (.getfield 11, 3) := by decide +kernel
theorem dX4_readNumber_117 : decode cX4_readNumber 117 = .ok (.iconst 1, 1) := by decide +kernel
theorem dX4_readNumber_118 : decode cX4_readNumber 118 = .ok (.iaload, 1) := by decide +kernel
theorem dX4_readNumber_119 : decode cX4_readNumber 119 = .ok (.aload_n 0, 1) := by decide +kernel
theorem dX4_readNumber_120 : decode cX4_readNumber 120 = .ok (.getfield 11, 3) := by decide +kernel
theorem dX4_readNumber_123 : decode cX4_readNumber 123 = .ok (.iconst 2, 1) := by decide +kernel
theorem dX4_readNumber_124 : decode cX4_readNumber 124 = .ok (.iaload, 1) := by decide +kernel
theorem dX4_readNumber_125 : decode cX4_readNumber 125 = .ok (.invokevirtual 112, 3) := by decide +kernel
theorem dX4_readNumber_128 : decode cX4_readNumber 128 = .ok (.ifCond .ne 8, 3) := by decide +kernel
theorem dX4_readNumber_131 : decode cX4_readNumber 131 = .ok (.aload_n 0, 1) := by decide +kernel
theorem dX4_readNumber_132 : decode cX4_readNumber 132 = .ok (.iconst 5, 1) := by decide +kernel
theorem dX4_readNumber_133 : decode cX4_readNumber 133 = .ok (.invokevirtual 63, 3) := by decide +kernel
theorem dX4_readNumber_136 : decode cX4_readNumber 136 = .ok (.return_, 1) := by decide +kernel
theorem dX4_isThere_0 : decode cX4_isThere 0 = .ok (.aload_n 0, 1) := by decide +kernel
theorem dX4_isThere_1 : decode cX4_isThere 1 = .ok (.getfield 24, 3) := by decide +kernel
theorem dX4_isThere_4 : decode cX4_isThere 4 = .ok (.invokevirtual 42, 3) := by decide +kernel
theorem dX4_isThere_7 : decode cX4_isThere 7 = .ok (.istore_n 2, 1) := by decide +kernel
theorem dX4_isThere_8 : decode cX4_isThere 8 = .ok (.iload_n 2, 1) := by decide +kernel
theorem dX4_isThere_9 : decode cX4_isThere 9 = .ok (.ifCond .eq 8, 3) := by decide +kernel
theorem dX4_isThere_12 : decode cX4_isThere 12 = .ok (.iload_n 2, 1) := by decide +kernel
theorem dX4_isThere_13 : decode cX4_isThere 13 = .ok (.iconst 1, 1) := by decide +kernel
theorem dX4_isThere_14 : decode cX4_isThere 14 = .ok (.if_icmp .ne 11, 3) := by decide +kernel
theorem dX4_isThere_17 : decode cX4_isThere 17 = .ok (.aload_n 0, 1) := by decide +kernel
theorem dX4_isThere_18 : decode cX4_isThere 18 = .ok (.iconst 1, 1) := by decide +kernel
theorem dX4_isThere_19 : decode cX4_isThere 19 = .ok (.invokevirtual 63, 3) := by decide +kernel
theorem dX4_isThere_22 : decode cX4_isThere 22 = .ok (.goto 13, 3) := by decide +kernel
theorem dX4_isThere_25 : decode cX4_isThere 25 = .ok (.iload_n 2, 1) := by decide +kernel
theorem dX4_isThere_26 : decode cX4_isThere 26 = .ok (.iload_n 1, 1) := by decide +kernel
theorem dX4_isThere_27 : decode cX4_isThere 27 = .ok (.if_icmp .eq 8, 3) := by decide +kernel
theorem dX4_isThere_30 : decode cX4_isThere 30 = .ok (.aload_n 0, 1) := by decide +kernel
theorem dX4_isThere_31 : decode cX4_isThere 31 = .ok (.iconst 2, 1) := by decide +kernel
theorem dX4_isThere_32 : decode cX4_isThere 32 = .ok (.invokevirtual 63, 3) := by decide +kernel
theorem dX4_isThere_35 : decode cX4_isThere 35 = .ok (.iload_n 2, 1) := by decide +kernel
theorem dX4_isThere_36 : decode cX4_isThere 36 = .ok (.iload_n 1, 1) := by decide +kernel
theorem dX4_isThere_37 : decode cX4_isThere 37 = .ok (.if_icmp .ne 7, 3) := by decide +kernel
theorem dX4_isThere_40 : decode cX4_isThere 40 = .ok (.iconst 1, 1) := by decide +kernel
theorem dX4_isThere_41 : decode cX4_isThere 41 = .ok (.goto 4, 3) := by decide +kernel
theorem dX4_isThere_44 : decode cX4_isThere 44 = .ok (.iconst 0, 1) := by decide +kernel
theorem dX4_isThere_45 : decode cX4_isThere 45 = .ok (.ireturn, 1) := by decide +kernel
theorem dX4_note_0 : decode cX4_note 0 = .ok (.aload_n 0, 1) := by decide +kernel
theorem dX4_note_1 : decode cX4_note 1 = .ok (.iload_n 1, 1) := by decide +kernel
theorem dX4_note_2 : decode cX4_note 2 = .ok (.putfield 28, 3) := by decide +kernel
theorem dX4_note_5 : decode cX4_note 5 = .ok (.aload_n 0, 1) := by decide +kernel
theorem dX4_note_6 : decode cX4_note 6 = .ok (.aload_n 0, 1) := by decide +kernel
theorem dX4_note_7 : decode cX4_note 7 = .ok (.getfield 24, 3) := by decide +kernel
theorem dX4_note_10 : decode cX4_note 10 = .ok (.invokevirtual 115, 3) := by decide +kernel
theorem dX4_note_13 : decode cX4_note 13 = .ok (.putfield 15, 3) := by decide +kernel
theorem dX4_note_16 : decode cX4_note 16 = .ok (.return_, 1) := by decide +kernel
theorem dX4_isTold_0 : decode cX4_isTold 0 = .ok (.iload_n 2, 1) := by decide +kernel
theorem dX4_isTold_1 : decode cX4_isTold 1 = .ok (.tableswitch 91 0 3 #[31, 42, 59, 70], 31) := by decide +kernel
theorem dX4_isTold_32 : decode cX4_isTold 32 = .ok (.aload_n 1, 1) := by decide +kernel
theorem dX4_isTold_33 : decode cX4_isTold 33 = .ok (.aload_n 0, 1) := by decide +kernel
theorem dX4_isTold_34 : decode cX4_isTold 34 = .ok (.getfield 11, 3) := by decide +kernel
theorem dX4_isTold_37 : decode cX4_isTold 37 = .ok (.iconst 0, 1) := by decide +kernel
theorem dX4_isTold_38 : decode cX4_isTold 38 = .ok (.iaload, 1) := by decide +kernel
theorem dX4_isTold_39 : decode cX4_isTold 39 = .ok (.invokevirtual 118, 3) := by decide +kernel
theorem dX4_isTold_42 : decode cX4_isTold 42 = .ok (.ireturn, 1) := by decide +kernel
theorem dX4_isTold_43 : decode cX4_isTold 43 = .ok (.aload_n 1, 1) := by decide +kernel
theorem dX4_isTold_44 : decode cX4_isTold 44 = .ok (.aload_n 0, 1) := by decide +kernel
theorem dX4_isTold_45 : decode cX4_isTold 45 = .ok (.getfield 11, 3) := by decide +kernel
theorem dX4_isTold_48 : decode cX4_isTold 48 = .ok (.iconst 0, 1) := by decide +kernel
theorem dX4_isTold_49 : decode cX4_isTold 49 = .ok (.iaload, 1) := by decide +kernel
theorem dX4_isTold_50 : decode cX4_isTold 50 = .ok (.aload_n 0, 1) := by decide +kernel
theorem dX4_isTold_51 : decode cX4_isTold 51 = .ok (.getfield 11, 3) := by decide +kernel
theorem dX4_isTold_54 : decode cX4_isTold 54 = .ok (.iconst 1, 1) := by decide +kernel
theorem dX4_isTold_55 : decode cX4_isTold 55 = .ok (.iaload, 1) := by decide +kernel
theorem dX4_isTold_56 : decode cX4_isTold 56 = .ok (.invokevirtual 121, 3) := by decide +kernel
theorem dX4_isTold_59 : decode cX4_isTold 59 = .ok (.ireturn, 1) := by decide +kernel
theorem dX4_isTold_60 : decode cX4_isTold 60 = .ok (.aload_n 1, 1) := by decide +kernel
theorem dX4_isTold_61 : decode cX4_isTold 61 = .ok (.aload_n 0, 1) := by decide +kernel
theorem dX4_isTold_62 : decode cX4_isTold 62 = .ok (.getfield 11, 3) := by decide +kernel
theorem dX4_isTold_65 : decode cX4_isTold 65 = .ok (.iconst 0, 1) := by decide +kernel
theorem dX4_isTold_66 : decode cX4_isTold 66 = .ok (.iaload, 1) := by decide +kernel
theorem dX4_isTold_67 : decode cX4_isTold 67 = .ok (.invokevirtual 125, 3) := by decide +kernel
theorem dX4_isTold_70 : decode cX4_isTold 70 = .ok (.ireturn, 1) := by decide +kernel
theorem dX4_isTold_71 : decode cX4_isTold 71 = .ok (.aload_n 1, 1) := by decide +kernel
theorem dX4_isTold_72 : decode cX4_isTold 72 = .ok (.aload_n 0, 1) := by decide +kernel
theorem dX4_isTold_73 : decode cX4_isTold 73 = .ok (.getfield 11, 3) := by decide +kernel
theorem dX4_isTold_76 : decode cX4_isTold 76 = .ok (.iconst 1, 1) := by decide +kernel
theorem dX4_isTold_77 : decode cX4_isTold 77 = .ok (.iaload, 1) := by decide +kernel
theorem dX4_isTold_78 : decode cX4_isTold 78 = .ok (.bipush 8, 2) := by decide +kernel
theorem dX4_isTold_80 : decode cX4_isTold 80 = .ok (.imul, 1) := by decide +kernel
theorem dX4_isTold_81 : decode cX4_isTold 81 = .ok (.aload_n 0, 1) := by decide +kernel
theorem dX4_isTold_82 : decode cX4_isTold 82 = .ok (.getfield 11, 3) := by decide +kernel
theorem dX4_isTold_85 : decode cX4_isTold 85 = .ok (.iconst 0, 1) := by decide +kernel
theorem dX4_isTold_86 : decode cX4_isTold 86 = .ok (.iaload, 1) := by decide +kernel
theorem dX4_isTold_87 : decode cX4_isTold 87 = .ok (.iadd, 1) := by decide +kernel
theorem dX4_isTold_88 : decode cX4_isTold 88 = .ok (.invokevirtual 128, 3) := by decide +kernel
theorem dX4_isTold_91 : decode cX4_isTold 91 = .ok (.ireturn, 1) := by decide +kernel
theorem dX4_isTold_92 : decode cX4_isTold 92 = .ok (.aload_n 1, 1) := by decide +kernel
theorem dX4_isTold_93 : decode cX4_isTold 93 = .ok (.aload_n 0, 1) := by decide +kernel
theorem dX4_isTold_94 : decode cX4_isTold 94 = .ok (.getfield 11, 3) := by decide +kernel
theorem dX4_isTold_97 : decode cX4_isTold 97 = .ok (.iconst 0, 1) := by decide +kernel
theorem dX4_isTold_98 : decode cX4_isTold 98 = .ok (.iaload, 1) := by decide +kernel
theorem dX4_isTold_99 : decode cX4_isTold 99 = .ok (.aload_n 0, 1) := by decide +kernel
theorem dX4_isTold_100 : decode cX4_isTold 100 = .ok (.getfield 11, 3) := by decide +kernel
theorem dX4_isTold_103 : decode cX4_isTold 103 = .ok (.iconst 1, 1) := by decide +kernel
theorem dX4_isTold_104 : decode cX4_isTold 104 = .ok (.iaload, 1) := by decide +kernel
theorem dX4_isTold_105 : decode cX4_isTold 105 = .ok (.invokevirtual 131, 3) := by decide +kernel
theorem dX4_isTold_108 : decode cX4_isTold 108 = .ok (.ireturn, 1) := by decide +kernel
theorem dX4_tell_0 : decode cX4_tell 0 = .ok (.iload_n 2, 1) := by decide +kernel
theorem dX4_tell_1 : decode cX4_tell 1 = .ok (.tableswitch 129 0 3 #[31, 56, 87, 106], 31) := by decide +kernel
theorem dX4_tell_32 : decode cX4_tell 32 = .ok (.aload_n 1, 1) := by decide +kernel
theorem dX4_tell_33 : decode cX4_tell 33 = .ok (.aload_n 0, 1) := by decide +kernel
theorem dX4_tell_34 : decode cX4_tell 34 = .ok (.getfield 11, 3) := by decide +kernel
theorem dX4_tell_37 : decode cX4_tell 37 = .ok (.iconst 0, 1) := by decide +kernel
theorem dX4_tell_38 : decode cX4_tell 38 = .ok (.iaload, 1) := by decide +kernel
theorem dX4_tell_39 : decode cX4_tell 39 = .ok (.aload_n 0, 1) := by decide +kernel
theorem dX4_tell_40 : decode cX4_tell 40 = .ok (.getfield 11, 3) := by decide +kernel
theorem dX4_tell_43 : decode cX4_tell 43 = .ok (.iconst 1, 1) := by decide +kernel
theorem dX4_tell_44 : decode cX4_tell 44 = .ok (.iaload, 1) := by decide +kernel
theorem dX4_tell_45 : decode cX4_tell 45 = .ok (.aload_n 0, 1) := by decide +kernel
theorem dX4_tell_46 : decode cX4_tell 46 = .ok (.getfield 11, 3) := by decide +kernel
theorem dX4_tell_49 : decode cX4_tell 49 = .ok (.iconst 2, 1) := by decide +kernel
theorem dX4_tell_50 : decode cX4_tell 50 = .ok (.iaload, 1) := by decide +kernel
theorem dX4_tell_51 : decode cX4_tell 51 = .ok (.invokevirtual 134, 3) := by decide +kernel
theorem dX4_tell_54 : decode cX4_tell 54 = .ok (.goto 98, 3) := by decide +kernel
theorem dX4_tell_57 : decode cX4_tell 57 = .ok (.aload_n 1, 1) := by decide +kernel
theorem dX4_tell_58 : decode cX4_tell 58 = .ok (.aload_n 0, 1) := by decide +kernel
theorem dX4_tell_59 : decode cX4_tell 59 = .ok (.getfield 11, 3) := by decide +kernel
theorem dX4_tell_62 : decode cX4_tell 62 = .ok (.iconst 0, 1) := by decide +kernel
theorem dX4_tell_63 : decode cX4_tell 63 = .ok (.iaload, 1) := by decide +kernel
theorem dX4_tell_64 : decode cX4_tell 64 = .ok (.aload_n 0, 1) := by decide +kernel
theorem dX4_tell_65 : decode cX4_tell 65 = .ok (.getfield 11, 3) := by decide +kernel
theorem dX4_tell_68 : decode cX4_tell 68 = .ok (.iconst 1, 1) := by decide +kernel
theorem dX4_tell_69 : decode cX4_tell 69 = .ok (.iaload, 1) := by decide +kernel
theorem dX4_tell_70 : decode cX4_tell 70 = .ok (.aload_n 0, 1) := by decide +kernel
theorem dX4_tell_71 : decode cX4_tell 71 = .ok (.getfield 11, 3) := by decide +kernel
theorem dX4_tell_74 : decode cX4_tell 74 = .ok (.iconst 2, 1) := by decide +kernel
theorem dX4_tell_75 : decode cX4_tell 75 = .ok (.iaload, 1) := by decide +kernel
theorem dX4_tell_76 : decode cX4_tell 76 = .ok (.aload_n 0, 1) := by decide +kernel
theorem dX4_tell_77 : decode cX4_tell 77 = .ok (.getfield 11, 3) := by decide +kernel
theorem dX4_tell_80 : decode cX4_tell 80 = .ok (.iconst 3, 1) := by decide +kernel
theorem dX4_tell_81 : decode cX4_tell 81 = .ok (.iaload, 1) := by decide +kernel
theorem dX4_tell_82 : decode cX4_tell 82 = .ok (.invokevirtual 138, 3) := by decide +kernel
theorem dX4_tell_85 : decode cX4_tell 85 = .ok (.goto 67, 3) := by decide +kernel
theorem dX4_tell_88 : decode cX4_tell 88 = .ok (.aload_n 1, 1) := by decide +kernel
theorem dX4_tell_89 : decode cX4_tell 89 = .ok (.aload_n 0, 1) := by decide +kernel
theorem dX4_tell_90 : decode cX4_tell 90 = .ok (.getfield 11, 3) := by decide +kernel
theorem dX4_tell_93 : decode cX4_tell 93 = .ok (.iconst 0, 1) := by decide +kernel
theorem dX4_tell_94 : decode cX4_tell 94 = .ok (.iaload, 1) := by decide +kernel
theorem dX4_tell_95 : decode cX4_tell 95 = .ok (.aload_n 0, 1) := by decide +kernel
theorem dX4_tell_96 : decode cX4_tell 96 = .ok (.getfield 11, 3) := by decide +kernel
theorem dX4_tell_99 : decode cX4_tell 99 = .ok (.iconst 1, 1) := by decide +kernel
theorem dX4_tell_100 : decode cX4_tell 100 = .ok (.iaload, 1) := by decide +kernel
theorem dX4_tell_101 : decode cX4_tell 101 = .ok (.invokevirtual 142, 3) := by decide +kernel
theorem dX4_tell_104 : decode cX4_tell 104 = .ok (.goto 48, 3) := by decide +kernel
theorem dX4_tell_107 : decode cX4_tell 107 = .ok (.aload_n 1, 1) := by decide +kernel
theorem dX4_tell_108 : decode cX4_tell 108 = .ok (.aload_n 0, 1) := by decide +kernel
theorem dX4_tell_109 : decode cX4_tell 109 = .ok (.getfield 11, 3) := by decide +kernel
theorem dX4_tell_112 : decode cX4_tell 112 = .ok (.iconst 1, 1) := by decide +kernel
theorem dX4_tell_113 : decode cX4_tell 113 = .ok (.iaload, 1) := by decide +kernel
theorem dX4_tell_114 : decode cX4_tell 114 = .ok (.bipush 8, 2) := by decide +kernel
theorem dX4_tell_116 : decode cX4_tell 116 = .ok (.imul, 1) := by decide +kernel
theorem dX4_tell_117 : decode cX4_tell 117 = .ok (.aload_n 0, 1) := by decide +kernel
theorem dX4_tell_118 : decode cX4_tell 118 = .ok (.getfield 11, 3) := by decide +kernel
theorem dX4_tell_121 : decode cX4_tell 121 = .ok (.iconst 0, 1) := by decide +kernel
theorem dX4_tell_122 : decode cX4_tell 122 = .ok (.iaload, 1) := by decide +kernel
theorem dX4_tell_123 : decode cX4_tell 123 = .ok (.iadd, 1) := by decide +kernel
theorem dX4_tell_124 : decode cX4_tell 124 = .ok (.invokevirtual 146, 3) := by decide +kernel
theorem dX4_tell_127 : decode cX4_tell 127 = .ok (.goto 25, 3) := by decide +kernel
theorem dX4_tell_130 : decode cX4_tell 130 = .ok (.aload_n 1, 1) := by decide +kernel
theorem dX4_tell_131 : decode cX4_tell 131 = .ok (.aload_n 0, 1) := by decide +kernel
theorem dX4_tell_132 : decode cX4_tell 132 = .ok (.getfield 11, 3) := by decide +kernel
theorem dX4_tell_135 : decode cX4_tell 135 = .ok (.iconst 0, 1) := by decide +kernel
theorem dX4_tell_136 : decode cX4_tell 136 = .ok (.iaload, 1) := by decide +kernel
theorem dX4_tell_137 : decode cX4_tell 137 = .ok (.aload_n 0, 1) := by decide +kernel
theorem dX4_tell_138 : decode cX4_tell 138 = .ok (.getfield 11, 3) := by decide +kernel
theorem dX4_tell_141 : decode cX4_tell 141 = .ok (.iconst 1, 1) := by decide +kernel
theorem dX4_tell_142 : decode cX4_tell 142 = .ok (.iaload, 1) := by decide +kernel
theorem dX4_tell_143 : decode cX4_tell 143 = .ok (.aload_n 0, 1) := by decide +kernel
theorem dX4_tell_144 : decode cX4_tell 144 = .ok (.getfield 11, 3) := by decide +kernel
theorem dX4_tell_147 : decode cX4_tell 147 = .ok (.iconst 2, 1) := by decide +kernel
theorem dX4_tell_148 : decode cX4_tell 148 = .ok (.iaload, 1) := by decide +kernel
theorem dX4_tell_149 : decode cX4_tell 149 = .ok (.invokevirtual 149, 3) := by decide +kernel
theorem dX4_tell_152 : decode cX4_tell 152 = .ok (.aload_n 1, 1) := by decide +kernel
theorem dX4_tell_153 : decode cX4_tell 153 = .ok (.invokevirtual 152, 3) := by decide +kernel
theorem dX4_tell_156 : decode cX4_tell 156 = .ok (.return_, 1) := by decide +kernel
theorem dX5_init_0 : decode cX5_init 0 = .ok (.aload_n 0, 1) := by decide +kernel
theorem dX5_init_1 : decode cX5_init 1 = .ok (.invokespecial 3, 3) := by decide +kernel
theorem dX5_init_4 : decode cX5_init 4 = .ok (.aload_n 0, 1) := by decide +kernel
theorem dX5_init_5 : decode cX5_init 5 = .ok (.iload_n 1, 1) := by decide +kernel
theorem dX5_init_6 : decode cX5_init 6 = .ok (.putfield 9, 3) := by decide +kernel
theorem dX5_init_9 : decode cX5_init 9 = .ok (.aload_n 0, 1) := by decide +kernel
theorem dX5_init_10 : decode cX5_init 10 = .ok (.iload_n 2, 1) := by decide +kernel
theorem dX5_init_11 : decode cX5_init 11 = .ok (.putfield 15, 3) := by decide +kernel
theorem dX5_init_14 : decode cX5_init 14 = .ok (.aload_n 0, 1) := by decide +kernel
theorem dX5_init_15 : decode cX5_init 15 = .ok (.iload_n 3, 1) := by decide +kernel
theorem dX5_init_16 : decode cX5_init 16 = .ok (.putfield 18, 3) := by decide +kernel
theorem dX5_init_19 : decode cX5_init 19 = .ok (.aload_n 0, 1) := by decide +kernel
theorem dX5_init_20 : decode cX5_init 20 = .ok (.iload 4, 2) := by decide +kernel
theorem dX5_init_22 : decode cX5_init 22 = .ok (.putfield 21, 3) := by decide +kernel
theorem dX5_init_25 : decode cX5_init 25 = .ok (.aload_n 0, 1) := by decide +kernel
theorem dX5_init_26 : decode cX5_init 26 = .ok (.iload 5, 2) := by decide +kernel
theorem dX5_init_28 : decode cX5_init 28 = .ok (.putfield 24, 3) := by decide +kernel
theorem dX5_init_31 : decode cX5_init 31 = .ok (.aload_n 0, 1) := by decide +kernel
theorem dX5_init_32 : decode cX5_init 32 = .ok (.iload 6, 2) := by decide +kernel
theorem dX5_init_34 : decode cX5_init 34 = .ok (.putfield 27, 3) := by decide +kernel
theorem dX5_init_37 : decode cX5_init 37 = .ok (.aload_n 0, 1) := by decide +kernel
theorem dX5_init_38 : decode cX5_init 38 = .ok (.iload 7, 2) := by decide +kernel
theorem dX5_init_40 : decode cX5_init 40 = .ok (.putfield 30, 3) := by decide +kernel
theorem dX5_init_43 : decode cX5_init 43 = .ok (.return_, 1) := by decide +kernel
theorem dX5_weighing_0 : decode cX5_weighing 0 = .ok (.aload_n 1, 1) := by decide +kernel
theorem dX5_weighing_1 : decode cX5_weighing 1 = .ok (.aload_n 0, 1) := by decide +kernel
theorem dX5_weighing_2 : decode cX5_weighing 2 = .ok (.getfield 9, 3) := by decide +kernel
theorem dX5_weighing_5 : decode cX5_weighing 5 = .ok (.invokevirtual 33, 3) := by decide +kernel
theorem dX5_weighing_8 : decode cX5_weighing 8 = .ok (.ifCond .ne 22, 3) := by decide +kernel
theorem dX5_weighing_11 : decode cX5_weighing 11 = .ok (.aload_n 0, 1) := by decide +kernel
theorem dX5_weighing_12 : decode cX5_weighing 12 = .ok (.aload_n 1, 1) := by decide +kernel
theorem dX5_weighing_13 : decode cX5_weighing 13 = .ok (.aload_n 0, 1) := by decide +kernel
theorem dX5_weighing_14 : decode cX5_weighing 14 = .ok (.getfield 9, 3) := by decide +kernel
theorem dX5_weighing_17 : decode cX5_weighing 17 = .ok (.invokevirtual 39, 3) := by decide +kernel
theorem dX5_weighing_20 : decode cX5_weighing 20 = .ok (.invokevirtual 42, 3) := by decide +kernel
theorem dX5_weighing_23 : decode cX5_weighing 23 = .ok (.ifCond .eq 7, 3) := by decide +kernel
theorem dX5_weighing_26 : decode cX5_weighing 26 = .ok (.iconst 1, 1) := by decide +kernel
theorem dX5_weighing_27 : decode cX5_weighing 27 = .ok (.goto 4, 3) := by decide +kernel
theorem dX5_weighing_30 : decode cX5_weighing 30 = .ok (.iconst 0, 1) := by decide +kernel
theorem dX5_weighing_31 : decode cX5_weighing 31 = .ok (.istore_n 3, 1) := by decide +kernel
theorem dX5_weighing_32 : decode cX5_weighing 32 = .ok (.iload_n 3, 1) := by decide +kernel
theorem dX5_weighing_33 : decode cX5_weighing 33 = .ok (.ifCond .eq 18, 3) := by decide +kernel
theorem dX5_weighing_36 : decode cX5_weighing 36 = .ok (.aload_n 2, 1) := by decide +kernel
theorem dX5_weighing_37 : decode cX5_weighing 37 = .ok (.aload_n 0, 1) := by decide +kernel
theorem dX5_weighing_38 : decode cX5_weighing 38 = .ok (.getfield 27, 3) := by decide +kernel
theorem dX5_weighing_41 : decode cX5_weighing 41 = .ok (.aload_n 0, 1) := by decide +kernel
theorem dX5_weighing_42 : decode cX5_weighing 42 = .ok (.getfield 30, 3) := by decide +kernel
theorem dX5_weighing_45 : decode cX5_weighing 45 = .ok (.invokevirtual 46, 3) := by decide +kernel
theorem dX5_weighing_48 : decode cX5_weighing 48 = .ok (.goto 5, 3) := by decide +kernel
theorem dX5_weighing_51 : decode cX5_weighing 51 = .ok (.bipush 100, 2) := by decide +kernel
theorem dX5_weighing_53 : decode cX5_weighing 53 = .ok (.ireturn, 1) := by decide +kernel
theorem dX5_hasCell_0 : decode cX5_hasCell 0 = .ok (.iload_n 1, 1) := by decide +kernel
theorem dX5_hasCell_1 : decode cX5_hasCell 1 = .ok (.invokestatic 52, 3) := by decide +kernel
theorem dX5_hasCell_4 : decode cX5_hasCell 4 = .ok (.ifCond .eq 43, 3) := by decide +kernel
theorem dX5_hasCell_7 : decode cX5_hasCell 7 = .ok (.iload_n 1, 1) := by decide +kernel
theorem dX5_hasCell_8 : decode cX5_hasCell 8 = .ok (.bipush 8, 2) := by decide +kernel
theorem dX5_hasCell_10 : decode cX5_hasCell 10 = .ok (.irem, 1) := by decide +kernel
theorem dX5_hasCell_11 : decode cX5_hasCell 11 = .ok (.aload_n 0, 1) := by decide +kernel
theorem dX5_hasCell_12 : decode cX5_hasCell 12 = .ok (.getfield 15, 3) := by decide +kernel
theorem dX5_hasCell_15 : decode cX5_hasCell 15 = .ok (.aload_n 0, 1) := by decide +kernel
theorem dX5_hasCell_16 : decode cX5_hasCell 16 = .ok (.getfield 18, 3) := by decide +kernel
theorem dX5_hasCell_19 : decode cX5_hasCell 19 = .ok (.invokestatic 55, 3) := by decide +kernel
theorem dX5_hasCell_22 : decode cX5_hasCell 22 = .ok (.ifCond .eq 25, 3) := by decide +kernel
theorem dX5_hasCell_25 : decode cX5_hasCell 25 = .ok (.iload_n 1, 1) := by decide +kernel
theorem dX5_hasCell_26 : decode cX5_hasCell 26 = .ok (.bipush 8, 2) := by decide +kernel
theorem dX5_hasCell_28 : decode cX5_hasCell 28 = .ok (.idiv, 1) := by decide +kernel
theorem dX5_hasCell_29 : decode cX5_hasCell 29 = .ok (.aload_n 0, 1) := by decide +kernel
theorem dX5_hasCell_30 : decode cX5_hasCell 30 = .ok (.getfield 21, 3) := by decide +kernel
theorem dX5_hasCell_33 : decode cX5_hasCell 33 = .ok (.aload_n 0, 1) := by decide +kernel
theorem dX5_hasCell_34 : decode cX5_hasCell 34 = .ok (.getfield 24, 3) := by decide +kernel
theorem dX5_hasCell_37 : decode cX5_hasCell 37 = .ok (.invokestatic 55, 3) := by decide +kernel
theorem dX5_hasCell_40 : decode cX5_hasCell 40 = .ok (.ifCond .eq 7, 3) := by decide +kernel
theorem dX5_hasCell_43 : decode cX5_hasCell 43 = .ok (.iconst 1, 1) := by decide +kernel
theorem dX5_hasCell_44 : decode cX5_hasCell 44 = .ok (.goto 4, 3) := by decide +kernel
theorem dX5_hasCell_47 : decode cX5_hasCell 47 = .ok (.iconst 0, 1) := by decide +kernel
theorem dX5_hasCell_48 : decode cX5_hasCell 48 = .ok (.ireturn, 1) := by decide +kernel
theorem dX6_init_0 : decode cX6_init 0 = .ok (.aload_n 0, 1) := by decide +kernel
theorem dX6_init_1 : decode cX6_init 1 = .ok (.invokespecial 3, 3) := by decide +kernel
theorem dX6_init_4 : decode cX6_init 4 = .ok (.aload_n 0, 1) := by decide +kernel
theorem dX6_init_5 : decode cX6_init 5 = .ok (.bipush 40, 2) := by decide +kernel
theorem dX6_init_7 : decode cX6_init 7 = .ok (.newarray .int, 2) := by decide +kernel
theorem dX6_init_9 : decode cX6_init 9 = .ok (.putfield 9, 3) := by decide +kernel
theorem dX6_init_12 : decode cX6_init 12 = .ok (.aload_n 0, 1) := by decide +kernel
theorem dX6_init_13 : decode cX6_init 13 = .ok (.bipush 40, 2) := by decide +kernel
theorem dX6_init_15 : decode cX6_init 15 = .ok (.newarray .long, 2) := by decide +kernel
theorem dX6_init_17 : decode cX6_init 17 = .ok (.putfield 15, 3) := by decide +kernel
theorem dX6_init_20 : decode cX6_init 20 = .ok (.aload_n 0, 1) := by decide +kernel
theorem dX6_init_21 : decode cX6_init 21 = .ok (.bipush 21, 2) := by decide +kernel
theorem dX6_init_23 : decode cX6_init 23 = .ok (.newarray .int, 2) := by decide +kernel
theorem dX6_init_25 : decode cX6_init 25 = .ok (.putfield 19, 3) := by decide +kernel
theorem dX6_init_28 : decode cX6_init 28 = .ok (.aload_n 0, 1) := by decide +kernel
theorem dX6_init_29 : decode cX6_init 29 = .ok (.bipush 21, 2) := by decide +kernel
theorem dX6_init_31 : decode cX6_init 31 = .ok (.newarray .int, 2) := by decide +kernel
theorem dX6_init_33 : decode cX6_init 33 = .ok (.putfield 22, 3) := by decide +kernel
theorem dX6_init_36 : decode cX6_init 36 = .ok (.aload_n 0, 1) := by decide +kernel
theorem dX6_init_37 : decode cX6_init 37 = .ok (.sipush 1681, 3) := by decide +kernel
theorem dX6_init_40 : decode cX6_init 40 = .ok (.newarray .long, 2) := by decide +kernel
theorem dX6_init_42 : decode cX6_init 42 = .ok (.putfield 25, 3) := by decide +kernel
theorem dX6_init_45 : decode cX6_init 45 = .ok (.return_, 1) := by decide +kernel
theorem dX6_weigh_0 : decode cX6_weigh 0 = .ok (.aload_n 0, 1) := by decide +kernel
theorem dX6_weigh_1 : decode cX6_weigh 1 = .ok (.iconst 0, 1) := by decide +kernel
theorem dX6_weigh_2 : decode cX6_weigh 2 = .ok (.iload 4, 2) := by decide +kernel
theorem dX6_weigh_4 : decode cX6_weigh 4 = .ok (.bipush 40, 2) := by decide +kernel
theorem dX6_weigh_6 : decode cX6_weigh 6 = .ok (.invokestatic 28, 3) := by decide +kernel
theorem dX6_weigh_9 : decode cX6_weigh 9 = .ok (.invokestatic 34, 3) := by decide +kernel
theorem dX6_weigh_12 : decode cX6_weigh 12 = .ok (.putfield 37, 3) := by decide +kernel
theorem dX6_weigh_15 : decode cX6_weigh 15 = .ok (.aload_n 0, 1) := by decide +kernel
theorem dX6_weigh_16 : decode cX6_weigh 16 = .ok (.aload_n 1, 1) := by decide +kernel
theorem dX6_weigh_17 : decode cX6_weigh 17 = .ok (.invokevirtual 41, 3) := by decide +kernel
theorem dX6_weigh_20 : decode cX6_weigh 20 = .ok (.aload_n 0, 1) := by decide +kernel
theorem dX6_weigh_21 : decode cX6_weigh 21 = .ok (.aload_n 2, 1) := by decide +kernel
theorem dX6_weigh_22 : decode cX6_weigh 22 = .ok (.iload_n 3, 1) := by decide +kernel
theorem dX6_weigh_23 : decode cX6_weigh 23 = .ok (.invokevirtual 45, 3) := by decide +kernel
theorem dX6_weigh_26 : decode cX6_weigh 26 = .ok (.iconst 0, 1) := by decide +kernel
theorem dX6_weigh_27 : decode cX6_weigh 27 = .ok (.istore 5, 2) := by decide +kernel
theorem dX6_weigh_29 : decode cX6_weigh 29 = .ok (.iload 5, 2) := by decide +kernel
theorem dX6_weigh_31 : decode cX6_weigh 31 = .ok (.aload_n 0, 1) := by decide +kernel
theorem dX6_weigh_32 : decode cX6_weigh 32 = .ok (.getfield 37, 3) := by decide +kernel
theorem dX6_weigh_35 : decode cX6_weigh 35 = .ok (.if_icmp .gt 25, 3) := by decide +kernel
theorem dX6_weigh_38 : decode cX6_weigh 38 = .ok (.aload_n 0, 1) := by decide +kernel
theorem dX6_weigh_39 : decode cX6_weigh 39 = .ok (.getfield 25, 3) := by decide +kernel
theorem dX6_weigh_42 : decode cX6_weigh 42 = .ok (.aload_n 0, 1) := by decide +kernel
theorem dX6_weigh_43 : decode cX6_weigh 43 = .ok (.getfield 49, 3) := by decide +kernel
theorem dX6_weigh_46 : decode cX6_weigh 46 = .ok (.bipush 41, 2) := by decide +kernel
theorem dX6_weigh_48 : decode cX6_weigh 48 = .ok (.imul, 1) := by decide +kernel
theorem dX6_weigh_49 : decode cX6_weigh 49 = .ok (.iload 5, 2) := by decide +kernel
theorem dX6_weigh_51 : decode cX6_weigh 51 = .ok (.iadd, 1) := by decide +kernel
theorem dX6_weigh_52 : decode cX6_weigh 52 = .ok (.lconst 0, 1) := by decide +kernel
theorem dX6_weigh_53 : decode cX6_weigh 53 = .ok (.lastore, 1) := by decide +kernel
theorem dX6_weigh_54 : decode cX6_weigh 54 = .ok (.iinc 5 1, 3) := by decide +kernel
theorem dX6_weigh_57 : decode cX6_weigh 57 = .ok (.goto (-28), 3) := by decide +kernel
theorem dX6_weigh_60 : decode cX6_weigh 60 = .ok (.aload_n 0, 1) := by decide +kernel
theorem dX6_weigh_61 : decode cX6_weigh 61 = .ok (.getfield 49, 3) := by decide +kernel
theorem dX6_weigh_64 : decode cX6_weigh 64 = .ok (.iconst 1, 1) := by decide +kernel
theorem dX6_weigh_65 : decode cX6_weigh 65 = .ok (.isub, 1) := by decide +kernel
theorem dX6_weigh_66 : decode cX6_weigh 66 = .ok (.istore 5, 2) := by decide +kernel
theorem dX6_weigh_68 : decode cX6_weigh 68 = .ok (.iload 5, 2) := by decide +kernel
theorem dX6_weigh_70 : decode cX6_weigh 70 = .ok (.ifCond .lt 48, 3) := by decide +kernel
theorem dX6_weigh_73 : decode cX6_weigh 73 = .ok (.iconst 0, 1) := by decide +kernel
theorem dX6_weigh_74 : decode cX6_weigh 74 = .ok (.istore 6, 2) := by decide +kernel
theorem dX6_weigh_76 : decode cX6_weigh 76 = .ok (.iload 6, 2) := by decide +kernel
theorem dX6_weigh_78 : decode cX6_weigh 78 = .ok (.aload_n 0, 1) := by decide +kernel
theorem dX6_weigh_79 : decode cX6_weigh 79 = .ok (.getfield 37, 3) := by decide +kernel
theorem dX6_weigh_82 : decode cX6_weigh 82 = .ok (.if_icmp .gt 30, 3) := by decide +kernel
theorem dX6_weigh_85 : decode cX6_weigh 85 = .ok (.aload_n 0, 1) := by decide +kernel
theorem dX6_weigh_86 : decode cX6_weigh 86 = .ok (.getfield 25, 3) := by decide +kernel
theorem dX6_weigh_89 : decode cX6_weigh 89 = .ok (.iload 5, 2) := by decide +kernel
theorem dX6_weigh_91 : decode cX6_weigh 91 = .ok (.bipush 41, 2) := by decide +kernel
theorem dX6_weigh_93 : decode cX6_weigh 93 = .ok (.imul, 1) := by decide +kernel
theorem dX6_weigh_94 : decode cX6_weigh 94 = .ok (.iload 6, 2) := by decide +kernel
theorem dX6_weigh_96 : decode cX6_weigh 96 = .ok (.iadd, 1) := by decide +kernel
theorem dX6_weigh_97 : decode cX6_weigh 97 = .ok (.aload_n 0, 1) := by decide +kernel
theorem dX6_weigh_98 : decode cX6_weigh 98 = .ok (.iload 5, 2) := by decide +kernel
theorem dX6_weigh_100 : decode cX6_weigh 100 = .ok (.iload 6, 2) := by decide +kernel
theorem dX6_weigh_102 : decode cX6_weigh 102 = .ok (.invokevirtual 52, 3) := by decide +kernel
theorem dX6_weigh_105 : decode cX6_weigh 105 = .ok (.lastore, 1) := by decide +kernel
theorem dX6_weigh_106 : decode cX6_weigh 106 = .ok (.iinc 6 1, 3) := by decide +kernel
theorem dX6_weigh_109 : decode cX6_weigh 109 = .ok (.goto (-33), 3) := by decide +kernel
theorem dX6_weigh_112 : decode cX6_weigh 112 = .ok (.iinc 5 (-1), 3) := by decide +kernel
theorem dX6_weigh_115 : decode cX6_weigh 115 = .ok (.goto (-47), 3) := by decide +kernel
theorem dX6_weigh_118 : decode cX6_weigh 118 = .ok (.return_, 1) := by decide +kernel
theorem dX6_mostSeen_0 : decode cX6_mostSeen 0 = .ok (.aload_n 0, 1) := by decide +kernel
theorem dX6_mostSeen_1 : decode cX6_mostSeen 1 = .ok (.getfield 25, 3) := by decide +kernel
theorem dX6_mostSeen_4 : decode cX6_mostSeen 4 = .ok (.aload_n 0, 1) := by decide +kernel
theorem dX6_mostSeen_5 : decode cX6_mostSeen 5 = .ok (.getfield 37, 3) := by decide +kernel
theorem dX6_mostSeen_8 : decode cX6_mostSeen 8 = .ok (.laload, 1) := by decide +kernel
theorem dX6_mostSeen_9 : decode cX6_mostSeen 9 = .ok (.lreturn, 1) := by decide +kernel
theorem dX6_givenTo_0 : decode cX6_givenTo 0 = .ok (.aload_n 0, 1) := by decide +kernel
theorem dX6_givenTo_1 : decode cX6_givenTo 1 = .ok (.invokevirtual 56, 3) := by decide +kernel
theorem dX6_givenTo_4 : decode cX6_givenTo 4 = .ok (.istore_n 2, 1) := by decide +kernel
theorem dX6_givenTo_5 : decode cX6_givenTo 5 = .ok (.iconst 0, 1) := by decide +kernel
theorem dX6_givenTo_6 : decode cX6_givenTo 6 = .ok (.istore_n 3, 1) := by decide +kernel
theorem dX6_givenTo_7 : decode cX6_givenTo 7 = .ok (.iload_n 3, 1) := by decide +kernel
theorem dX6_givenTo_8 : decode cX6_givenTo 8 = .ok (.aload_n 0, 1) := by decide +kernel
theorem dX6_givenTo_9 : decode cX6_givenTo 9 = .ok (.getfield 49, 3) := by decide +kernel
theorem dX6_givenTo_12 : decode cX6_givenTo 12 = .ok (.if_icmp .ge 35, 3) := by decide +kernel
theorem dX6_givenTo_15 : decode cX6_givenTo 15 = .ok (.aload_n 0, 1) := by decide +kernel
theorem dX6_givenTo_16 : decode cX6_givenTo 16 = .ok (.iload_n 3, 1) := by decide +kernel
theorem dX6_givenTo_17 : decode cX6_givenTo 17 = .ok (.iload_n 2, 1) := by decide +kernel
theorem dX6_givenTo_18 : decode cX6_givenTo 18 = .ok (.invokevirtual 60, 3) := by decide +kernel
theorem dX6_givenTo_21 : decode cX6_givenTo 21 = .ok (.istore 4, 2) := by decide +kernel
theorem dX6_givenTo_23 : decode cX6_givenTo 23 = .ok (.aload_n 0, 1) := by decide +kernel
theorem dX6_givenTo_24 : decode cX6_givenTo 24 = .ok (.getfield 9, 3) := by decide +kernel
theorem dX6_givenTo_27 : decode cX6_givenTo 27 = .ok (.iload_n 3, 1) := by decide +kernel
theorem dX6_givenTo_28 : decode cX6_givenTo 28 = .ok (.iaload, 1) := by decide +kernel
theorem dX6_givenTo_29 : decode cX6_givenTo 29 = .ok (.iload_n 1, 1) := by decide +kernel
theorem dX6_givenTo_30 : decode cX6_givenTo 30 = .ok (.if_icmp .ne 6, 3) := by decide +kernel
theorem dX6_givenTo_33 : decode cX6_givenTo 33 = .ok (.iload 4, 2) := by decide +kernel
theorem dX6_givenTo_35 : decode cX6_givenTo 35 = .ok (.ireturn, 1) := by decide +kernel
theorem dX6_givenTo_36 : decode cX6_givenTo 36 = .ok (.iload_n 2, 1) := by decide +kernel
theorem dX6_givenTo_37 : decode cX6_givenTo 37 = .ok (.iload 4, 2) := by decide +kernel
theorem dX6_givenTo_39 : decode cX6_givenTo 39 = .ok (.isub, 1) := by decide +kernel
theorem dX6_givenTo_40 : decode cX6_givenTo 40 = .ok (.istore_n 2, 1) := by decide +kernel
theorem dX6_givenTo_41 : decode cX6_givenTo 41 = .ok (.iinc 3 1, 3) := by decide +kernel
theorem dX6_givenTo_44 : decode cX6_givenTo 44 = .ok (.goto (-37), 3) := by decide +kernel
theorem dX6_givenTo_47 : decode cX6_givenTo 47 = .ok (.iconst 0, 1) := by decide +kernel
theorem dX6_givenTo_48 : decode cX6_givenTo 48 = .ok (.ireturn, 1) := by decide +kernel
theorem dX6_listCells_0 : decode cX6_listCells 0 = .ok (.aload_n 0, 1) := by decide +kernel
theorem dX6_listCells_1 : decode cX6_listCells 1 = .ok (.iconst 0, 1) := by decide +kernel
theorem dX6_listCells_2 : decode cX6_listCells 2 = .ok (.putfield 49, 3) := by decide +kernel
theorem dX6_listCells_5 : decode cX6_listCells 5 = .ok (.iconst 0, 1) := by decide +kernel
theorem dX6_listCells_6 : decode cX6_listCells 6 = .ok (.istore_n 2, 1) := by decide +kernel
theorem dX6_listCells_7 : decode cX6_listCells 7 = .ok (.iload_n 2, 1) := by decide +kernel
theorem dX6_listCells_8 : decode cX6_listCells 8 = .ok (.aload_n 1, 1) := by decide +kernel
theorem dX6_listCells_9 : decode cX6_listCells 9 = .ok (.arraylength, 1) := by decide +kernel
theorem dX6_listCells_10 : decode cX6_listCells 10 = .ok (.if_icmp .ge 58, 3) := by decide +kernel
theorem dX6_listCells_13 : decode cX6_listCells 13 = .ok (.aload_n 0, 1) := by decide +kernel
theorem dX6_listCells_14 : decode cX6_listCells 14 = .ok (.getfield 49, 3) := by decide +kernel
theorem dX6_listCells_17 : decode cX6_listCells 17 = .ok (.bipush 40, 2) := by decide +kernel
theorem dX6_listCells_19 : decode cX6_listCells 19 = .ok (.if_icmp .ge 49, 3) := by decide +kernel
theorem dX6_listCells_22 : decode cX6_listCells 22 = .ok (.aload_n 1, 1) := by decide +kernel
theorem dX6_listCells_23 : decode cX6_listCells 23 = .ok (.iload_n 2, 1) := by decide +kernel
theorem dX6_listCells_24 : decode cX6_listCells 24 = .ok (.laload, 1) := by decide +kernel
theorem dX6_listCells_25 : decode cX6_listCells 25 = .ok (.lconst 0, 1) := by decide +kernel
theorem dX6_listCells_26 : decode cX6_listCells 26 = .ok (.lcmp, 1) := by decide +kernel
theorem dX6_listCells_27 : decode cX6_listCells 27 = .ok (.ifCond .le 35, 3) := by decide +kernel
theorem dX6_listCells_30 : decode cX6_listCells 30 = .ok (.aload_n 0, 1) := by decide +kernel
theorem dX6_listCells_31 : decode cX6_listCells 31 = .ok (.getfield 9, 3) := by decide +kernel
theorem dX6_listCells_34 : decode cX6_listCells 34 = .ok (.aload_n 0, 1) := by decide +kernel
theorem dX6_listCells_35 : decode cX6_listCells 35 = .ok (.getfield 49, 3) := by decide +kernel
theorem dX6_listCells_38 : decode cX6_listCells 38 = .ok (.iload_n 2, 1) := by decide +kernel
theorem dX6_listCells_39 : decode cX6_listCells 39 = .ok (.iastore, 1) := by decide +kernel
theorem dX6_listCells_40 : decode cX6_listCells 40 = .ok (.aload_n 0, 1) := by decide +kernel
theorem dX6_listCells_41 : decode cX6_listCells 41 = .ok (.getfield 15, 3) := by decide +kernel
theorem dX6_listCells_44 : decode cX6_listCells 44 = .ok (.aload_n 0, 1) := by decide +kernel
theorem dX6_listCells_45 : decode cX6_listCells 45 = .ok (.getfield 49, 3) := by decide +kernel
theorem dX6_listCells_48 : decode cX6_listCells 48 = .ok (.aload_n 1, 1) := by decide +kernel
theorem dX6_listCells_49 : decode cX6_listCells 49 = .ok (.iload_n 2, 1) := by decide +kernel
theorem dX6_listCells_50 : decode cX6_listCells 50 = .ok (.laload, 1) := by decide +kernel
theorem dX6_listCells_51 : decode cX6_listCells 51 = .ok (.lastore, 1) := by decide +kernel
theorem dX6_listCells_52 : decode cX6_listCells 52 = .ok (.aload_n 0, 1) := by decide +kernel
theorem dX6_listCells_53 : decode cX6_listCells 53 = .ok (.dup, 1) := by decide +kernel
theorem dX6_listCells_54 : decode cX6_listCells 54 = .ok (.getfield 49, 3) := by decide +kernel
theorem dX6_listCells_57 : decode cX6_listCells 57 = .ok (.iconst 1, 1) := by decide +kernel
theorem dX6_listCells_58 : decode cX6_listCells 58 = .ok (.iadd, 1) := by decide +kernel
theorem dX6_listCells_59 : decode cX6_listCells 59 = .ok (.putfield 49, 3) := by decide +kernel
theorem dX6_listCells_62 : decode cX6_listCells 62 = .ok (.iinc 2 1, 3) := by decide +kernel
theorem dX6_listCells_65 : decode cX6_listCells 65 = .ok (.goto (-58), 3) := by decide +kernel
theorem dX6_listCells_68 : decode cX6_listCells 68 = .ok (.return_, 1) := by decide +kernel
theorem dX6_listSteps_0 : decode cX6_listSteps 0 = .ok (.aload_n 0, 1) := by decide +kernel
theorem dX6_listSteps_1 : decode cX6_listSteps 1 = .ok (.getfield 19, 3) := by decide +kernel
theorem dX6_listSteps_4 : decode cX6_listSteps 4 = .ok (.iconst 0, 1) := by decide +kernel
theorem dX6_listSteps_5 : decode cX6_listSteps 5 = .ok (.iconst 0, 1) := by decide +kernel
theorem dX6_listSteps_6 : decode cX6_listSteps 6 = .ok (.iastore, 1) := by decide +kernel
theorem dX6_listSteps_7 : decode cX6_listSteps 7 = .ok (.aload_n 0, 1) := by decide +kernel
theorem dX6_listSteps_8 : decode cX6_listSteps 8 = .ok (.getfield 22, 3) := by decide +kernel
theorem dX6_listSteps_11 : decode cX6_listSteps 11 = .ok (.iconst 0, 1) := by decide +kernel
theorem dX6_listSteps_12 : decode cX6_listSteps 12 = .ok (.bipush 100, 2) := by decide +kernel
theorem dX6_listSteps_14 : decode cX6_listSteps 14 = .ok (.aload_n 1, 1) := by decide +kernel
theorem dX6_listSteps_15 : decode cX6_listSteps 15 = .ok (.iload_n 2, 1) := by decide +kernel
theorem dX6_listSteps_16 : decode cX6_listSteps 16 = .ok (.iconst 0, 1) := by decide +kernel
theorem dX6_listSteps_17 : decode cX6_listSteps 17 = .ok (.invokevirtual 63, 3) := by decide +kernel
theorem dX6_listSteps_20 : decode cX6_listSteps 20 = .ok (.isub, 1) := by decide +kernel
theorem dX6_listSteps_21 : decode cX6_listSteps 21 = .ok (.iastore, 1) := by decide +kernel
theorem dX6_listSteps_22 : decode cX6_listSteps 22 = .ok (.aload_n 0, 1) := by decide +kernel
theorem dX6_listSteps_23 : decode cX6_listSteps 23 = .ok (.iconst 1, 1) := by decide +kernel
theorem dX6_listSteps_24 : decode cX6_listSteps 24 = .ok (.putfield 68, 3) := by decide +kernel
theorem dX6_listSteps_27 : decode cX6_listSteps 27 = .ok (.iconst 1, 1) := by decide +kernel
theorem dX6_listSteps_28 : decode cX6_listSteps 28 = .ok (.istore_n 3, 1) := by decide +kernel
theorem dX6_listSteps_29 : decode cX6_listSteps 29 = .ok (.iload_n 3, 1) := by decide +kernel
theorem dX6_listSteps_30 : decode cX6_listSteps 30 = .ok (.bipush 20, 2) := by decide +kernel
theorem dX6_listSteps_32 : decode cX6_listSteps 32 = .ok (.if_icmp .gt 67, 3) := by decide +kernel
theorem dX6_listSteps_35 : decode cX6_listSteps 35 = .ok (.bipush 100, 2) := by decide +kernel
theorem dX6_listSteps_37 : decode cX6_listSteps 37 = .ok (.aload_n 1, 1) := by decide +kernel
theorem dX6_listSteps_38 : decode cX6_listSteps 38 = .ok (.iload_n 2, 1) := by decide +kernel
theorem dX6_listSteps_39 : decode cX6_listSteps 39 = .ok (.iload_n 3, 1) := by decide +kernel
theorem dX6_listSteps_40 : decode cX6_listSteps 40 = .ok (.invokevirtual 63, 3) := by decide +kernel
theorem dX6_listSteps_43 : decode cX6_listSteps 43 = .ok (.isub, 1) := by decide +kernel
theorem dX6_listSteps_44 : decode cX6_listSteps 44 = .ok (.istore 4, 2) := by decide +kernel
theorem dX6_listSteps_46 : decode cX6_listSteps 46 = .ok (.iload 4, 2) := by decide +kernel
theorem dX6_listSteps_48 : decode cX6_listSteps 48 = .ok (.aload_n 0, 1) := by decide +kernel
theorem dX6_listSteps_49 : decode cX6_listSteps 49 = .ok (.getfield 22, 3) := by decide +kernel
theorem dX6_listSteps_52 : decode cX6_listSteps 52 = .ok (.aload_n 0, 1) := by decide +kernel
theorem dX6_listSteps_53 : decode cX6_listSteps 53 = .ok (.getfield 68, 3) := by decide +kernel
theorem dX6_listSteps_56 : decode cX6_listSteps 56 = .ok (.iconst 1, 1) := by decide +kernel
theorem dX6_listSteps_57 : decode cX6_listSteps 57 = .ok (.isub, 1) := by decide +kernel
theorem dX6_listSteps_58 : decode cX6_listSteps 58 = .ok (.iaload, 1) := by decide +kernel
theorem dX6_listSteps_59 : decode cX6_listSteps 59 = .ok (.if_icmp .le 34, 3) := by decide +kernel
theorem dX6_listSteps_62 : decode cX6_listSteps 62 = .ok (.aload_n 0, 1) := by decide +kernel
theorem dX6_listSteps_63 : decode cX6_listSteps 63 = .ok (.getfield 19, 3) := by decide +kernel
theorem dX6_listSteps_66 : decode cX6_listSteps 66 = .ok (.aload_n 0, 1) := by decide +kernel
theorem dX6_listSteps_67 : decode cX6_listSteps 67 = .ok (.getfield 68, 3) := by decide +kernel
theorem dX6_listSteps_70 : decode cX6_listSteps 70 = .ok (.iload_n 3, 1) := by decide +kernel
theorem dX6_listSteps_71 : decode cX6_listSteps 71 = .ok (.iastore, 1) := by decide +kernel
theorem dX6_listSteps_72 : decode cX6_listSteps 72 = .ok (.aload_n 0, 1) := by decide +kernel
theorem dX6_listSteps_73 : decode cX6_listSteps 73 = .ok (.getfield 22, 3) := by decide +kernel
theorem dX6_listSteps_76 : decode cX6_listSteps 76 = .ok (.aload_n 0, 1) := by decide +kernel
theorem dX6_listSteps_77 : decode cX6_listSteps 77 = .ok (.getfield 68, 3) := by decide +kernel
theorem dX6_listSteps_80 : decode cX6_listSteps 80 = .ok (.iload 4, 2) := by decide +kernel
theorem dX6_listSteps_82 : decode cX6_listSteps 82 = .ok (.iastore, 1) := by decide +kernel
theorem dX6_listSteps_83 : decode cX6_listSteps 83 = .ok (.aload_n 0, 1) := by decide +kernel
theorem dX6_listSteps_84 : decode cX6_listSteps 84 = .ok (.dup, 1) := by decide +kernel
theorem dX6_listSteps_85 : decode cX6_listSteps 85 = .ok (.getfield 68, 3) := by decide +kernel
theorem dX6_listSteps_88 : decode cX6_listSteps 88 = .ok (.iconst 1, 1) := by decide +kernel
theorem dX6_listSteps_89 : decode cX6_listSteps 89 = .ok (.iadd, 1) := by decide +kernel
theorem dX6_listSteps_90 : decode cX6_listSteps 90 = .ok (.putfield 68, 3) := by decide +kernel
theorem dX6_listSteps_93 : decode cX6_listSteps 93 = .ok (.iinc 3 1, 3) := by decide +kernel
theorem dX6_listSteps_96 : decode cX6_listSteps 96 = .ok (.goto (-67), 3) := by decide +kernel
theorem dX6_listSteps_99 : decode cX6_listSteps 99 = .ok (.return_, 1) := by decide +kernel
theorem dX6_mostFrom_0 : decode cX6_mostFrom 0 = .ok (.lconst 0, 1) := by decide +kernel
theorem dX6_mostFrom_1 : decode cX6_mostFrom 1 = .ok (.lstore_n 3, 1) := by decide +kernel
theorem dX6_mostFrom_2 : decode cX6_mostFrom 2 = .ok (.iconst 0, 1) := by decide +kernel
theorem dX6_mostFrom_3 : decode cX6_mostFrom 3 = .ok (.istore 5, 2) := by decide +kernel
theorem dX6_mostFrom_5 : decode cX6_mostFrom 5 = .ok (.iload 5, 2) := by decide +kernel
theorem dX6_mostFrom_7 : decode cX6_mostFrom 7 = .ok (.aload_n 0, 1) := by decide +kernel
theorem dX6_mostFrom_8 : decode cX6_mostFrom 8 = .ok (.getfield 68, 3) := by decide +kernel
theorem dX6_mostFrom_11 : decode cX6_mostFrom 11 = .ok (.if_icmp .ge 33, 3) := by decide +kernel
theorem dX6_mostFrom_14 : decode cX6_mostFrom 14 = .ok (.aload_n 0, 1) := by decide +kernel
theorem dX6_mostFrom_15 : decode cX6_mostFrom 15 = .ok (.getfield 19, 3) := by decide +kernel
theorem dX6_mostFrom_18 : decode cX6_mostFrom 18 = .ok (.iload 5, 2) := by decide +kernel
theorem dX6_mostFrom_20 : decode cX6_mostFrom 20 = .ok (.iaload, 1) := by decide +kernel
theorem dX6_mostFrom_21 : decode cX6_mostFrom 21 = .ok (.iload_n 2, 1) := by decide +kernel
theorem dX6_mostFrom_22 : decode cX6_mostFrom 22 = .ok (.if_icmp .gt 22, 3) := by decide +kernel
theorem dX6_mostFrom_25 : decode cX6_mostFrom 25 = .ok (.lload_n 3, 1) := by decide +kernel
theorem dX6_mostFrom_26 : decode cX6_mostFrom 26 = .ok (.aload_n 0, 1) := by decide +kernel
theorem dX6_mostFrom_27 : decode cX6_mostFrom 27 = .ok (.iload_n 1, 1) := by decide +kernel
theorem dX6_mostFrom_28 : decode cX6_mostFrom 28 = .ok (.iload_n 2, 1) := by decide +kernel
theorem dX6_mostFrom_29 : decode cX6_mostFrom 29 = .ok (.iload 5, 2) := by decide +kernel
theorem dX6_mostFrom_31 : decode cX6_mostFrom 31 = .ok (.invokevirtual 71, 3) := by decide +kernel
theorem dX6_mostFrom_34 : decode cX6_mostFrom 34 = .ok (.invokestatic 75, 3) := by decide +kernel
theorem dX6_mostFrom_37 : decode cX6_mostFrom 37 = .ok (.lstore_n 3, 1) := by decide +kernel
theorem dX6_mostFrom_38 : decode cX6_mostFrom 38 = .ok (.iinc 5 1, 3) := by decide +kernel
theorem dX6_mostFrom_41 : decode cX6_mostFrom 41 = .ok (.goto (-36), 3) := by decide +kernel
theorem dX6_mostFrom_44 : decode cX6_mostFrom 44 = .ok (.lload_n 3, 1) := by decide +kernel
theorem dX6_mostFrom_45 : decode cX6_mostFrom 45 = .ok (.lreturn, 1) := by decide +kernel
theorem dX6_shownBy_0 : decode cX6_shownBy 0 = .ok (.aload_n 0, 1) := by decide +kernel
theorem dX6_shownBy_1 : decode cX6_shownBy 1 = .ok (.getfield 15, 3) := by decide +kernel
theorem dX6_shownBy_4 : decode cX6_shownBy 4 = .ok (.iload_n 1, 1) := by decide +kernel
theorem dX6_shownBy_5 : decode cX6_shownBy 5 = .ok (.laload, 1) := by decide +kernel
theorem dX6_shownBy_6 : decode cX6_shownBy 6 = .ok (.aload_n 0, 1) := by decide +kernel
theorem dX6_shownBy_7 : decode cX6_shownBy 7 = .ok (.getfield 22, 3) := by decide +kernel
theorem dX6_shownBy_10 : decode cX6_shownBy 10 = .ok (.iload_n 3, 1) := by decide +kernel
theorem dX6_shownBy_11 : decode cX6_shownBy 11 = .ok (.iaload, 1) := by decide +kernel
theorem dX6_shownBy_12 : decode cX6_shownBy 12 = .ok (.i2l, 1) := by decide +kernel
theorem dX6_shownBy_13 : decode cX6_shownBy 13 = .ok (.lmul, 1) := by decide +kernel
theorem dX6_shownBy_14 : decode cX6_shownBy 14 = .ok (.aload_n 0, 1) := by decide +kernel
theorem dX6_shownBy_15 : decode cX6_shownBy 15 = .ok (.getfield 25, 3) := by decide +kernel
theorem dX6_shownBy_18 : decode cX6_shownBy 18 = .ok (.iload_n 1, 1) := by decide +kernel
theorem dX6_shownBy_19 : decode cX6_shownBy 19 = .ok (.iconst 1, 1) := by decide +kernel
theorem dX6_shownBy_20 : decode cX6_shownBy 20 = .ok (.iadd, 1) := by decide +kernel
theorem dX6_shownBy_21 : decode cX6_shownBy 21 = .ok (.bipush 41, 2) := by decide +kernel
theorem dX6_shownBy_23 : decode cX6_shownBy 23 = .ok (.imul, 1) := by decide +kernel
theorem dX6_shownBy_24 : decode cX6_shownBy 24 = .ok (.iload_n 2, 1) := by decide +kernel
theorem dX6_shownBy_25 : decode cX6_shownBy 25 = .ok (.iadd, 1) := by decide +kernel
theorem dX6_shownBy_26 : decode cX6_shownBy 26 = .ok (.aload_n 0, 1) := by decide +kernel
theorem dX6_shownBy_27 : decode cX6_shownBy 27 = .ok (.getfield 19, 3) := by decide +kernel
theorem dX6_shownBy_30 : decode cX6_shownBy 30 = .ok (.iload_n 3, 1) := by decide +kernel
theorem dX6_shownBy_31 : decode cX6_shownBy 31 = .ok (.iaload, 1) := by decide +kernel
theorem dX6_shownBy_32 : decode cX6_shownBy 32 = .ok (.isub, 1) := by decide +kernel
theorem dX6_shownBy_33 : decode cX6_shownBy 33 = .ok (.laload, 1) := by decide +kernel
theorem dX6_shownBy_34 : decode cX6_shownBy 34 = .ok (.ladd, 1) := by decide +kernel
theorem dX6_shownBy_35 : decode cX6_shownBy 35 = .ok (.lreturn, 1) := by decide +kernel
theorem dX6_leastForMost_0 : decode cX6_leastForMost 0 = .ok (.iconst 0, 1) := by decide +kernel
theorem dX6_leastForMost_1 : decode cX6_leastForMost 1 = .ok (.istore_n 1, 1) := by decide +kernel
theorem dX6_leastForMost_2 : decode cX6_leastForMost 2 = .ok (.iload_n 1, 1) := by decide +kernel
theorem dX6_leastForMost_3 : decode cX6_leastForMost 3 = .ok (.aload_n 0, 1) := by decide +kernel
theorem dX6_leastForMost_4 : decode cX6_leastForMost 4 = .ok (.getfield 37, 3) := by decide +kernel
theorem dX6_leastForMost_7 : decode cX6_leastForMost 7 = .ok (.if_icmp .ge 28, 3) := by decide +kernel
theorem dX6_leastForMost_10 : decode cX6_leastForMost 10 = .ok (.aload_n 0, 1) := by decide +kernel
theorem dX6_leastForMost_11 : decode cX6_leastForMost 11 = .ok (.getfield 25, 3) := by decide +kernel
theorem dX6_leastForMost_14 : decode cX6_leastForMost 14 = .ok (.iload_n 1, 1) := by decide +kernel
theorem dX6_leastForMost_15 : decode cX6_leastForMost 15 = .ok (.laload, 1) := by decide +kernel
theorem dX6_leastForMost_16 : decode cX6_leastForMost 16 = .ok (.aload_n 0, 1) := by decide +kernel
theorem dX6_leastForMost_17 : decode cX6_leastForMost 17 = .ok (.getfield 25, 3) := by decide +kernel
theorem dX6_leastForMost_20 : decode cX6_leastForMost 20 = .ok (.aload_n 0, 1) := by decide +kernel
theorem dX6_leastForMost_21 : decode cX6_leastForMost 21 = .ok (.getfield 37, 3) := by decide +kernel
theorem dX6_leastForMost_24 : decode cX6_leastForMost 24 = .ok (.laload, 1) := by decide +kernel
theorem dX6_leastForMost_25 : decode cX6_leastForMost 25 = .ok (.lcmp, 1) := by decide +kernel
theorem dX6_leastForMost_26 : decode cX6_leastForMost 26 = .ok (.ifCond .eq 9, 3) := by decide +kernel
theorem dX6_leastForMost_29 : decode cX6_leastForMost 29 = .ok (.iinc 1 1, 3) := by decide +kernel
theorem dX6_leastForMost_32 : decode cX6_leastForMost 32 = .ok (.goto (-30), 3) := by decide +kernel
theorem dX6_leastForMost_35 : decode cX6_leastForMost 35 = .ok (.iload_n 1, 1) := by decide +kernel
theorem dX6_leastForMost_36 : decode cX6_leastForMost 36 = .ok (.ireturn, 1) := by decide +kernel
theorem dX6_leastGift_0 : decode cX6_leastGift 0 = .ok (.iconst 0, 1) := by decide +kernel
theorem dX6_leastGift_1 : decode cX6_leastGift 1 = .ok (.istore_n 3, 1) := by decide +kernel
theorem dX6_leastGift_2 : decode cX6_leastGift 2 = .ok (.iload_n 3, 1) := by decide +kernel
theorem dX6_leastGift_3 : decode cX6_leastGift 3 = .ok (.aload_n 0, 1) := by decide +kernel
theorem dX6_leastGift_4 : decode cX6_leastGift 4 = .ok (.getfield 68, 3) := by decide +kernel
theorem dX6_leastGift_7 : decode cX6_leastGift 7 = .ok (.if_icmp .ge 48, 3) := by decide +kernel
theorem dX6_leastGift_10 : decode cX6_leastGift 10 = .ok (.aload_n 0, 1) := by decide +kernel
theorem dX6_leastGift_11 : decode cX6_leastGift 11 = .ok (.getfield 19, 3) := by decide +kernel
theorem dX6_leastGift_14 : decode cX6_leastGift 14 = .ok (.iload_n 3, 1) := by decide +kernel
theorem dX6_leastGift_15 : decode cX6_leastGift 15 = .ok (.iaload, 1) := by decide +kernel
theorem dX6_leastGift_16 : decode cX6_leastGift 16 = .ok (.iload_n 2, 1) := by decide +kernel
theorem dX6_leastGift_17 : decode cX6_leastGift 17 = .ok (.if_icmp .gt 38, 3) := by decide +kernel
theorem dX6_leastGift_20 : decode cX6_leastGift 20 = .ok (.aload_n 0, 1) := by decide +kernel
theorem dX6_leastGift_21 : decode cX6_leastGift 21 = .ok (.iload_n 1, 1) := by decide +kernel
theorem dX6_leastGift_22 : decode cX6_leastGift 22 = .ok (.iload_n 2, 1) := by decide +kernel
theorem dX6_leastGift_23 : decode cX6_leastGift 23 = .ok (.iload_n 3, 1) := by decide +kernel
theorem dX6_leastGift_24 : decode cX6_leastGift 24 = .ok (.invokevirtual 71, 3) := by decide +kernel
theorem dX6_leastGift_27 : decode cX6_leastGift 27 = .ok (.aload_n 0, 1) := by decide +kernel
theorem dX6_leastGift_28 : decode cX6_leastGift 28 = .ok (.getfield 25, 3) := by decide +kernel
theorem dX6_leastGift_31 : decode cX6_leastGift 31 = .ok (.iload_n 1, 1) := by decide +kernel
theorem dX6_leastGift_32 : decode cX6_leastGift 32 = .ok (.bipush 41, 2) := by decide +kernel
theorem dX6_leastGift_34 : decode cX6_leastGift 34 = .ok (.imul, 1) := by decide +kernel
theorem dX6_leastGift_35 : decode cX6_leastGift 35 = .ok (.iload_n 2, 1) := by decide +kernel
theorem dX6_leastGift_36 : decode cX6_leastGift 36 = .ok (.iadd, 1) := by decide +kernel
theorem dX6_leastGift_37 : decode cX6_leastGift 37 = .ok (.laload, 1) := by decide +kernel
theorem dX6_leastGift_38 : decode cX6_leastGift 38 = .ok (.lcmp, 1) := by decide +kernel
theorem dX6_leastGift_39 : decode cX6_leastGift 39 = .ok (.ifCond .ne 10, 3) := by decide +kernel
theorem dX6_leastGift_42 : decode cX6_leastGift 42 = .ok (.aload_n 0, 1) := by decide +kernel
theorem dX6_leastGift_43 : decode cX6_leastGift 43 = .ok (.getfield 19, 3) := by decide +kernel
theorem dX6_leastGift_46 : decode cX6_leastGift 46 = .ok (.iload_n 3, 1) := by decide +kernel
theorem dX6_leastGift_47 : decode cX6_leastGift 47 = .ok (.iaload, 1) := by decide +kernel
theorem dX6_leastGift_48 : decode cX6_leastGift 48 = .ok (.ireturn, 1) := by decide +kernel
theorem dX6_leastGift_49 : decode cX6_leastGift 49 = .ok (.iinc 3 1, 3) := by decide +kernel
theorem dX6_leastGift_52 : decode cX6_leastGift 52 = .ok (.goto (-50), 3) := by decide +kernel
theorem dX6_leastGift_55 : decode cX6_leastGift 55 = .ok (.iconst 0, 1) := by decide +kernel
theorem dX6_leastGift_56 : decode cX6_leastGift 56 = .ok (.ireturn, 1) := by decide +kernel
theorem dX7_init_0 : decode cX7_init 0 = .ok (.aload_n 0, 1) := by decide +kernel
theorem dX7_init_1 : decode cX7_init 1 = .ok (.invokespecial 3, 3) := by decide +kernel
theorem dX7_init_4 : decode cX7_init 4 = .ok (.aload_n 0, 1) := by decide +kernel
theorem dX7_init_5 : decode cX7_init 5 = .ok (.bipush 73, 2) := by decide +kernel
theorem dX7_init_7 : decode cX7_init 7 = .ok (.newarray .short, 2) := by decide +kernel
theorem dX7_init_9 : decode cX7_init 9 = .ok (.putfield 9, 3) := by decide +kernel
theorem dX7_init_12 : decode cX7_init 12 = .ok (.aload_n 0, 1) := by decide +kernel
theorem dX7_init_13 : decode cX7_init 13 = .ok (.iload_n 1, 1) := by decide +kernel
theorem dX7_init_14 : decode cX7_init 14 = .ok (.putfield 15, 3) := by decide +kernel
theorem dX7_init_17 : decode cX7_init 17 = .ok (.aload_n 0, 1) := by decide +kernel
theorem dX7_init_18 : decode cX7_init 18 = .ok (.iload_n 2, 1) := by decide +kernel
theorem dX7_init_19 : decode cX7_init 19 = .ok (.putfield 19, 3) := by decide +kernel
theorem dX7_init_22 : decode cX7_init 22 = .ok (.aload_n 0, 1) := by decide +kernel
theorem dX7_init_23 : decode cX7_init 23 = .ok (.iload_n 3, 1) := by decide +kernel
theorem dX7_init_24 : decode cX7_init 24 = .ok (.putfield 22, 3) := by decide +kernel
theorem dX7_init_27 : decode cX7_init 27 = .ok (.aload_n 0, 1) := by decide +kernel
theorem dX7_init_28 : decode cX7_init 28 = .ok (.iload 4, 2) := by decide +kernel
theorem dX7_init_30 : decode cX7_init 30 = .ok (.putfield 25, 3) := by decide +kernel
theorem dX7_init_33 : decode cX7_init 33 = .ok (.aload_n 0, 1) := by decide +kernel
theorem dX7_init_34 : decode cX7_init 34 = .ok (.iload 5, 2) := by decide +kernel
theorem dX7_init_36 : decode cX7_init 36 = .ok (.putfield 28, 3) := by decide +kernel
theorem dX7_init_39 : decode cX7_init 39 = .ok (.return_, 1) := by decide +kernel
theorem dX7_weight_0 : decode cX7_weight 0 = .ok (.aload_n 0, 1) := by decide +kernel
theorem dX7_weight_1 : decode cX7_weight 1 = .ok (.getfield 28, 3) := by decide +kernel
theorem dX7_weight_4 : decode cX7_weight 4 = .ok (.ireturn, 1) := by decide +kernel
theorem dX7_drift_0 : decode cX7_drift 0 = .ok (.aload_n 0, 1) := by decide +kernel
theorem dX7_drift_1 : decode cX7_drift 1 = .ok (.getfield 19, 3) := by decide +kernel
theorem dX7_drift_4 : decode cX7_drift 4 = .ok (.istore_n 2, 1) := by decide +kernel
theorem dX7_drift_5 : decode cX7_drift 5 = .ok (.aload_n 0, 1) := by decide +kernel
theorem dX7_drift_6 : decode cX7_drift 6 = .ok (.getfield 22, 3) := by decide +kernel
theorem dX7_drift_9 : decode cX7_drift 9 = .ok (.istore_n 3, 1) := by decide +kernel
theorem dX7_drift_10 : decode cX7_drift 10 = .ok (.iconst 0, 1) := by decide +kernel
theorem dX7_drift_11 : decode cX7_drift 11 = .ok (.istore 4, 2) := by decide +kernel
theorem dX7_drift_13 : decode cX7_drift 13 = .ok (.iconst 0, 1) := by decide +kernel
theorem dX7_drift_14 : decode cX7_drift 14 = .ok (.istore 5, 2) := by decide +kernel
theorem dX7_drift_16 : decode cX7_drift 16 = .ok (.iload 5, 2) := by decide +kernel
theorem dX7_drift_18 : decode cX7_drift 18 = .ok (.bipush 72, 2) := by decide +kernel
theorem dX7_drift_20 : decode cX7_drift 20 = .ok (.if_icmp .gt 140, 3) := by decide +kernel
theorem dX7_drift_23 : decode cX7_drift 23 = .ok (.iload 5, 2) := by decide +kernel
theorem dX7_drift_25 : decode cX7_drift 25 = .ok (.aload_n 0, 1) := by decide +kernel
theorem dX7_drift_26 : decode cX7_drift 26 = .ok (.getfield 25, 3) := by decide +kernel
theorem dX7_drift_29 : decode cX7_drift 29 = .ok (.if_icmp .le 75, 3) := by decide +kernel
theorem dX7_drift_32 : decode cX7_drift 32 = .ok (.iload 4, 2) := by decide +kernel
theorem dX7_drift_34 : decode cX7_drift 34 = .ok (.ifCond .ne 70, 3) := by decide +kernel
theorem dX7_drift_37 : decode cX7_drift 37 = .ok (.iload_n 2, 1) := by decide +kernel
theorem dX7_drift_38 : decode cX7_drift 38 = .ok (.iload_n 3, 1) := by decide +kernel
theorem dX7_drift_39 : decode cX7_drift 39 = .ok (.invokestatic 31, 3) := by decide +kernel
theorem dX7_drift_42 : decode cX7_drift 42 = .ok (.istore 6, 2) := by decide +kernel
theorem dX7_drift_44 : decode cX7_drift 44 = .ok (.iload_n 2, 1) := by decide +kernel
theorem dX7_drift_45 : decode cX7_drift 45 = .ok (.aload_n 1, 1) := by decide +kernel
theorem dX7_drift_46 : decode cX7_drift 46 = .ok (.aload_n 0, 1) := by decide +kernel
theorem dX7_drift_47 : decode cX7_drift 47 = .ok (.getfield 15, 3) := by decide +kernel
theorem dX7_drift_50 : decode cX7_drift 50 = .ok (.iload 6, 2) := by decide +kernel
theorem dX7_drift_52 : decode cX7_drift 52 = .ok (.iload 5, 2) := by decide +kernel
theorem dX7_drift_54 : decode cX7_drift 54 = .ok (.iconst 1, 1) := by decide +kernel
theorem dX7_drift_55 : decode cX7_drift 55 = .ok (.isub, 1) := by decide +kernel
theorem dX7_drift_56 : decode cX7_drift 56 = .ok (.iconst 0, 1) := by decide +kernel
theorem dX7_drift_57 : decode cX7_drift 57 = .ok (.invokevirtual 35, 3) := by decide +kernel
theorem dX7_drift_60 : decode cX7_drift 60 = .ok (.iadd, 1) := by decide +kernel
theorem dX7_drift_61 : decode cX7_drift 61 = .ok (.istore 7, 2) := by decide +kernel
theorem dX7_drift_63 : decode cX7_drift 63 = .ok (.iload_n 3, 1) := by decide +kernel
theorem dX7_drift_64 : decode cX7_drift 64 = .ok (.aload_n 1, 1) := by decide +kernel
theorem dX7_drift_65 : decode cX7_drift 65 = .ok (.aload_n 0, 1) := by decide +kernel
theorem dX7_drift_66 : decode cX7_drift 66 = .ok (.getfield 15, 3) := by decide +kernel
theorem dX7_drift_69 : decode cX7_drift 69 = .ok (.iload 6, 2) := by decide +kernel
theorem dX7_drift_71 : decode cX7_drift 71 = .ok (.iload 5, 2) := by decide +kernel
theorem dX7_drift_73 : decode cX7_drift 73 = .ok (.iconst 1, 1) := by decide +kernel
theorem dX7_drift_74 : decode cX7_drift 74 = .ok (.isub, 1) := by decide +kernel
theorem dX7_drift_75 : decode cX7_drift 75 = .ok (.iconst 1, 1) := by decide +kernel
theorem dX7_drift_76 : decode cX7_drift 76 = .ok (.invokevirtual 35, 3) := by decide +kernel
theorem dX7_drift_79 : decode cX7_drift 79 = .ok (.iadd, 1) := by decide +kernel
theorem dX7_drift_80 : decode cX7_drift 80 = .ok (.istore 8, 2) := by decide +kernel
theorem dX7_drift_82 : decode cX7_drift 82 = .ok (.iload 7, 2) := by decide +kernel
theorem dX7_drift_84 : decode cX7_drift 84 = .ok (.iload 8, 2) := by decide +kernel
theorem dX7_drift_86 : decode cX7_drift 86 = .ok (.invokestatic 41, 3) := by decide +kernel
theorem dX7_drift_89 : decode cX7_drift 89 = .ok (.ifCond .eq 12, 3) := by decide +kernel
theorem dX7_drift_92 : decode cX7_drift 92 = .ok (.iload 7, 2) := by decide +kernel
theorem dX7_drift_94 : decode cX7_drift 94 = .ok (.istore_n 2, 1) := by decide +kernel
theorem dX7_drift_95 : decode cX7_drift 95 = .ok (.iload 8, 2) := by decide +kernel
theorem dX7_drift_97 : decode cX7_drift 97 = .ok (.istore_n 3, 1) := by decide +kernel
theorem dX7_drift_98 : decode cX7_drift 98 = .ok (.goto 6, 3) := by decide +kernel
theorem dX7_drift_101 : decode cX7_drift 101 = .ok (.iconst 2, 1) := by decide +kernel
theorem dX7_drift_102 : decode cX7_drift 102 = .ok (.istore 4, 2) := by decide +kernel
theorem dX7_drift_104 : decode cX7_drift 104 = .ok (.iload 5, 2) := by decide +kernel
theorem dX7_drift_106 : decode cX7_drift 106 = .ok (.aload_n 0, 1) := by decide +kernel
theorem dX7_drift_107 : decode cX7_drift 107 = .ok (.getfield 25, 3) := by decide +kernel
theorem dX7_drift_110 : decode cX7_drift 110 = .ok (.if_icmp .lt 23, 3) := by decide +kernel
theorem dX7_drift_113 : decode cX7_drift 113 = .ok (.iload 4, 2) := by decide +kernel
theorem dX7_drift_115 : decode cX7_drift 115 = .ok (.ifCond .ne 18, 3) := by decide +kernel
theorem dX7_drift_118 : decode cX7_drift 118 = .ok (.aload_n 1, 1) := by decide +kernel
theorem dX7_drift_119 : decode cX7_drift 119 = .ok (.iload_n 2, 1) := by decide +kernel
theorem dX7_drift_120 : decode cX7_drift 120 = .ok (.iload_n 3, 1) := by decide +kernel
theorem dX7_drift_121 : decode cX7_drift 121 = .ok (.invokestatic 45, 3) := by decide +kernel
theorem dX7_drift_124 : decode cX7_drift 124 = .ok (.invokevirtual 48, 3) := by decide +kernel
theorem dX7_drift_127 : decode cX7_drift 127 = .ok (.ifCond .eq 6, 3) := by decide +kernel
theorem dX7_drift_130 : decode cX7_drift 130 = .ok (.iconst 1, 1) := by decide +kernel
theorem dX7_drift_131 : decode cX7_drift 131 = .ok (.istore 4, 2) := by decide +kernel
theorem dX7_drift_133 : decode cX7_drift 133 = .ok (.aload_n 0, 1) := by decide +kernel
theorem dX7_drift_134 : decode cX7_drift 134 = .ok (.getfield 9, 3) := by decide +kernel
theorem dX7_drift_137 : decode cX7_drift 137 = .ok (.iload 5, 2) := by decide +kernel
theorem dX7_drift_139 : decode cX7_drift 139 = .ok (.iload 4, 2) := by decide +kernel
theorem dX7_drift_141 : decode cX7_drift 141 = .ok (.sipush 10000, 3) := by decide +kernel
theorem dX7_drift_144 : decode cX7_drift 144 = .ok (.imul, 1) := by decide +kernel
theorem dX7_drift_145 : decode cX7_drift 145 = .ok (.iload_n 3, 1) := by decide +kernel
theorem dX7_drift_146 : decode cX7_drift 146 = .ok (.bipush 100, 2) := by decide +kernel
theorem dX7_drift_148 : decode cX7_drift 148 = .ok (.imul, 1) := by decide +kernel
theorem dX7_drift_149 : decode cX7_drift 149 = .ok (.iadd, 1) := by decide +kernel
theorem dX7_drift_150 : decode cX7_drift 150 = .ok (.iload_n 2, 1) := by decide +kernel
theorem dX7_drift_151 : decode cX7_drift 151 = .ok (.iadd, 1) := by decide +kernel
theorem dX7_drift_152 : decode cX7_drift 152 = .ok (.i2s, 1) := by decide +kernel
theorem dX7_drift_153 : decode cX7_drift 153 = .ok (.sastore, 1) := by decide +kernel
theorem dX7_drift_154 : decode cX7_drift 154 = .ok (.iinc 5 1, 3) := by decide +kernel
theorem dX7_drift_157 : decode cX7_drift 157 = .ok (.goto (-141), 3) := by decide +kernel
theorem dX7_drift_160 : decode cX7_drift 160 = .ok (.return_, 1) := by decide +kernel
theorem dX7_stateAt_0 : decode cX7_stateAt 0 = .ok (.iload_n 1, 1) := by decide +kernel
theorem dX7_stateAt_1 : decode cX7_stateAt 1 = .ok (.invokestatic 52, 3) := by decide +kernel
theorem dX7_stateAt_4 : decode cX7_stateAt 4 = .ok (.ifCond .eq 16, 3) := by decide +kernel
theorem dX7_stateAt_7 : decode cX7_stateAt 7 = .ok (.aload_n 0, 1) := by decide +kernel
theorem dX7_stateAt_8 : decode cX7_stateAt 8 = .ok (.getfield 9, 3) := by decide +kernel
theorem dX7_stateAt_11 : decode cX7_stateAt 11 = .ok (.iload_n 1, 1) := by decide +kernel
theorem dX7_stateAt_12 : decode cX7_stateAt 12 = .ok (.saload, 1) := by decide +kernel
theorem dX7_stateAt_13 : decode cX7_stateAt 13 = .ok (.sipush 10000, 3) := by decide +kernel
theorem dX7_stateAt_16 : decode cX7_stateAt 16 = .ok (.idiv, 1) := by decide +kernel
theorem dX7_stateAt_17 : decode cX7_stateAt 17 = .ok (.goto 4, 3) := by decide +kernel
theorem dX7_stateAt_20 : decode cX7_stateAt 20 = .ok (.iconst (-1), 1) := by decide +kernel
theorem dX7_stateAt_21 : decode cX7_stateAt 21 = .ok (.ireturn, 1) := by decide +kernel
theorem dX7_pointAt_0 : decode cX7_pointAt 0 = .ok (.iload_n 1, 1) := by decide +kernel
theorem dX7_pointAt_1 : decode cX7_pointAt 1 = .ok (.invokestatic 52, 3) := by decide +kernel
theorem dX7_pointAt_4 : decode cX7_pointAt 4 = .ok (.ifCond .eq 21, 3) := by decide +kernel
theorem dX7_pointAt_7 : decode cX7_pointAt 7 = .ok (.aload_n 0, 1) := by decide +kernel
theorem dX7_pointAt_8 : decode cX7_pointAt 8 = .ok (.getfield 9, 3) := by decide +kernel
theorem dX7_pointAt_11 : decode cX7_pointAt 11 = .ok (.iload_n 1, 1) := by decide +kernel
theorem dX7_pointAt_12 : decode cX7_pointAt 12 = .ok (.saload, 1) := by decide +kernel
theorem dX7_pointAt_13 : decode cX7_pointAt 13 = .ok (.sipush 10000, 3) := by decide +kernel
theorem dX7_pointAt_16 : decode cX7_pointAt 16 = .ok (.idiv, 1) := by decide +kernel
theorem dX7_pointAt_17 : decode cX7_pointAt 17 = .ok (.iconst 2, 1) := by decide +kernel
theorem dX7_pointAt_18 : decode cX7_pointAt 18 = .ok (.if_icmp .eq 7, 3) := by decide +kernel
theorem dX7_pointAt_21 : decode cX7_pointAt 21 = .ok (.iconst 1, 1) := by decide +kernel
theorem dX7_pointAt_22 : decode cX7_pointAt 22 = .ok (.goto 4, 3) := by decide +kernel
theorem dX7_pointAt_25 : decode cX7_pointAt 25 = .ok (.iconst 0, 1) := by decide +kernel
theorem dX7_pointAt_26 : decode cX7_pointAt 26 = .ok (.istore_n 2, 1) := by decide +kernel
theorem dX7_pointAt_27 : decode cX7_pointAt 27 = .ok (.iload_n 2, 1) := by decide +kernel
theorem dX7_pointAt_28 : decode cX7_pointAt 28 = .ok (.ifCond .eq 16, 3) := by decide +kernel
theorem dX7_pointAt_31 : decode cX7_pointAt 31 = .ok (.aload_n 0, 1) := by decide +kernel
theorem dX7_pointAt_32 : decode cX7_pointAt 32 = .ok (.getfield 9, 3) := by decide +kernel
theorem dX7_pointAt_35 : decode cX7_pointAt 35 = .ok (.iload_n 1, 1) := by decide +kernel
theorem dX7_pointAt_36 : decode cX7_pointAt 36 = .ok (.saload, 1) := by decide +kernel
theorem dX7_pointAt_37 : decode cX7_pointAt 37 = .ok (.sipush 10000, 3) := by decide +kernel
theorem dX7_pointAt_40 : decode cX7_pointAt 40 = .ok (.irem, 1) := by decide +kernel
theorem dX7_pointAt_41 : decode cX7_pointAt 41 = .ok (.goto 4, 3) := by decide +kernel
theorem dX7_pointAt_44 : decode cX7_pointAt 44 = .ok (.iconst (-1), 1) := by decide +kernel
theorem dX7_pointAt_45 : decode cX7_pointAt 45 = .ok (.ireturn, 1) := by decide +kernel
theorem dX7_cellAt_0 : decode cX7_cellAt 0 = .ok (.aload_n 0, 1) := by decide +kernel
theorem dX7_cellAt_1 : decode cX7_cellAt 1 = .ok (.iload_n 1, 1) := by decide +kernel
theorem dX7_cellAt_2 : decode cX7_cellAt 2 = .ok (.invokevirtual 55, 3) := by decide +kernel
theorem dX7_cellAt_5 : decode cX7_cellAt 5 = .ok (.istore_n 2, 1) := by decide +kernel
theorem dX7_cellAt_6 : decode cX7_cellAt 6 = .ok (.iload_n 2, 1) := by decide +kernel
theorem dX7_cellAt_7 : decode cX7_cellAt 7 = .ok (.iconst (-1), 1) := by decide +kernel
theorem dX7_cellAt_8 : decode cX7_cellAt 8 = .ok (.if_icmp .ne 7, 3) := by decide +kernel
theorem dX7_cellAt_11 : decode cX7_cellAt 11 = .ok (.iconst (-1), 1) := by decide +kernel
theorem dX7_cellAt_12 : decode cX7_cellAt 12 = .ok (.goto 14, 3) := by decide +kernel
theorem dX7_cellAt_15 : decode cX7_cellAt 15 = .ok (.iload_n 2, 1) := by decide +kernel
theorem dX7_cellAt_16 : decode cX7_cellAt 16 = .ok (.bipush 100, 2) := by decide +kernel
theorem dX7_cellAt_18 : decode cX7_cellAt 18 = .ok (.irem, 1) := by decide +kernel
theorem dX7_cellAt_19 : decode cX7_cellAt 19 = .ok (.iload_n 2, 1) := by decide +kernel
theorem dX7_cellAt_20 : decode cX7_cellAt 20 = .ok (.bipush 100, 2) := by decide +kernel
theorem dX7_cellAt_22 : decode cX7_cellAt 22 = .ok (.idiv, 1) := by decide +kernel
theorem dX7_cellAt_23 : decode cX7_cellAt 23 = .ok (.invokestatic 45, 3) := by decide +kernel
theorem dX7_cellAt_26 : decode cX7_cellAt 26 = .ok (.ireturn, 1) := by decide +kernel
theorem dX8_init_0 : decode cX8_init 0 = .ok (.aload_n 0, 1) := by decide +kernel
theorem dX8_init_1 : decode cX8_init 1 = .ok (.invokespecial 1, 3) := by decide +kernel
theorem dX8_init_4 : decode cX8_init 4 = .ok (.aload_n 0, 1) := by decide +kernel
theorem dX8_init_5 : decode cX8_init 5 = .ok (.sipush 1000, 3) := by decide +kernel
theorem dX8_init_8 : decode cX8_init 8 = .ok (.newarray .byte, 2) := by decide +kernel
theorem dX8_init_10 : decode cX8_init 10 = .ok (.putfield 9, 3) := by decide +kernel
theorem dX8_init_13 : decode cX8_init 13 = .ok (.return_, 1) := by decide +kernel
theorem dX8_size_0 : decode cX8_size 0 = .ok (.aload_n 0, 1) := by decide +kernel
theorem dX8_size_1 : decode cX8_size 1 = .ok (.getfield 13, 3) := by decide +kernel
theorem dX8_size_4 : decode cX8_size 4 = .ok (.ireturn, 1) := by decide +kernel
theorem dX8_hasRoom_0 : decode cX8_hasRoom 0 = .ok (.aload_n 0, 1) := by decide +kernel
theorem dX8_hasRoom_1 : decode cX8_hasRoom 1 = .ok (.getfield 13, 3) := by decide +kernel
theorem dX8_hasRoom_4 : decode cX8_hasRoom 4 = .ok (.iload_n 1, 1) := by decide +kernel
theorem dX8_hasRoom_5 : decode cX8_hasRoom 5 = .ok (.iadd, 1) := by decide +kernel
theorem dX8_hasRoom_6 : decode cX8_hasRoom 6 = .ok (.sipush 1000, 3) := by decide +kernel
theorem dX8_hasRoom_9 : decode cX8_hasRoom 9 = .ok (.if_icmp .gt 7, 3) := by decide +kernel
theorem dX8_hasRoom_12 : decode cX8_hasRoom 12 = .ok (.iconst 1, 1) := by decide +kernel
theorem dX8_hasRoom_13 : decode cX8_hasRoom 13 = .ok (.goto 4, 3) := by decide +kernel
theorem dX8_hasRoom_16 : decode cX8_hasRoom 16 = .ok (.iconst 0, 1) := by decide +kernel
theorem dX8_hasRoom_17 : decode cX8_hasRoom 17 = .ok (.ireturn, 1) := by decide +kernel
theorem dX8_add_0 : decode cX8_add 0 = .ok (.bipush 24, 2) := by decide +kernel
theorem dX8_add_2 : decode cX8_add 2 = .ok (.istore_n 2, 1) := by decide +kernel
theorem dX8_add_3 : decode cX8_add 3 = .ok (.iload_n 2, 1) := by decide +kernel
theorem dX8_add_4 : decode cX8_add 4 = .ok (.ifCond .lt 42, 3) := by decide +kernel
theorem dX8_add_7 : decode cX8_add 7 = .ok (.aload_n 0, 1) := by decide +kernel
theorem dX8_add_8 : decode cX8_add 8 = .ok (.getfield 13, 3) := by decide +kernel
theorem dX8_add_11 : decode cX8_add 11 = .ok (.sipush 1000, 3) := by decide +kernel
theorem dX8_add_14 : decode cX8_add 14 = .ok (.if_icmp .ge 32, 3) := by decide +kernel
theorem dX8_add_17 : decode cX8_add 17 = .ok (.aload_n 0, 1) := by decide +kernel
theorem dX8_add_18 : decode cX8_add 18 = .ok (.getfield 9, 3) := by decide +kernel
theorem dX8_add_21 : decode cX8_add 21 = .ok (.aload_n 0, 1) := by decide +kernel
theorem dX8_add_22 : decode cX8_add 22 = .ok (.getfield 13, 3) := by decide +kernel
theorem dX8_add_25 : decode cX8_add 25 = .ok (.iload_n 1, 1) := by decide +kernel
theorem dX8_add_26 : decode cX8_add 26 = .ok (.iload_n 2, 1) := by decide +kernel
theorem dX8_add_27 : decode cX8_add 27 = .ok (.ishr, 1) := by decide +kernel
theorem dX8_add_28 : decode cX8_add 28 = .ok (.i2b, 1) := by decide +kernel
theorem dX8_add_29 : decode cX8_add 29 = .ok (.bastore, 1) := by decide +kernel
theorem dX8_add_30 : decode cX8_add 30 = .ok (.aload_n 0, 1) := by decide +kernel
theorem dX8_add_31 : decode cX8_add 31 = .ok (.dup, 1) := by decide +kernel
theorem dX8_add_32 : decode cX8_add 32 = .ok (.getfield 13, 3) := by decide +kernel
theorem dX8_add_35 : decode cX8_add 35 = .ok (.iconst 1, 1) := by decide +kernel
theorem dX8_add_36 : decode cX8_add 36 = .ok (.iadd, 1) := by decide +kernel
theorem dX8_add_37 : decode cX8_add 37 = .ok (.putfield 13, 3) := by decide +kernel
theorem dX8_add_40 : decode cX8_add 40 = .ok (.iinc 2 (-8), 3) := by decide +kernel
theorem dX8_add_43 : decode cX8_add 43 = .ok (.goto (-40), 3) := by decide +kernel
theorem dX8_add_46 : decode cX8_add 46 = .ok (.return_, 1) := by decide +kernel
theorem dX8_cut_0 : decode cX8_cut 0 = .ok (.iload_n 1, 1) := by decide +kernel
theorem dX8_cut_1 : decode cX8_cut 1 = .ok (.ifCond .lt 16, 3) := by decide +kernel
theorem dX8_cut_4 : decode cX8_cut 4 = .ok (.iload_n 1, 1) := by decide +kernel
theorem dX8_cut_5 : decode cX8_cut 5 = .ok (.aload_n 0, 1) := by decide +kernel
theorem dX8_cut_6 : decode cX8_cut 6 = .ok (.getfield 13, 3) := by decide +kernel
theorem dX8_cut_9 : decode cX8_cut 9 = .ok (.if_icmp .gt 8, 3) := by decide +kernel
theorem dX8_cut_12 : decode cX8_cut 12 = .ok (.aload_n 0, 1) := by decide +kernel
theorem dX8_cut_13 : decode cX8_cut 13 = .ok (.iload_n 1, 1) := by decide +kernel
theorem dX8_cut_14 : decode cX8_cut 14 = .ok (.putfield 13, 3) := by decide +kernel
theorem dX8_cut_17 : decode cX8_cut 17 = .ok (.return_, 1) := by decide +kernel
theorem dX8_byteAt_0 : decode cX8_byteAt 0 = .ok (.iload_n 1, 1) := by decide +kernel
theorem dX8_byteAt_1 : decode cX8_byteAt 1 = .ok (.ifCond .lt 24, 3) := by decide +kernel
theorem dX8_byteAt_4 : decode cX8_byteAt 4 = .ok (.iload_n 1, 1) := by decide +kernel
theorem dX8_byteAt_5 : decode cX8_byteAt 5 = .ok (.aload_n 0, 1) := by decide +kernel
theorem dX8_byteAt_6 : decode cX8_byteAt 6 = .ok (.getfield 13, 3) := by decide +kernel
theorem dX8_byteAt_9 : decode cX8_byteAt 9 = .ok (.if_icmp .ge 16, 3) := by decide +kernel
theorem dX8_byteAt_12 : decode cX8_byteAt 12 = .ok (.aload_n 0, 1) := by decide +kernel
theorem dX8_byteAt_13 : decode cX8_byteAt 13 = .ok (.getfield 9, 3) := by decide +kernel
theorem dX8_byteAt_16 : decode cX8_byteAt 16 = .ok (.iload_n 1, 1) := by decide +kernel
theorem dX8_byteAt_17 : decode cX8_byteAt 17 = .ok (.baload, 1) := by decide +kernel
theorem dX8_byteAt_18 : decode cX8_byteAt 18 = .ok (.sipush 255, 3) := by decide +kernel
theorem dX8_byteAt_21 : decode cX8_byteAt 21 = .ok (.iand, 1) := by decide +kernel
theorem dX8_byteAt_22 : decode cX8_byteAt 22 = .ok (.goto 4, 3) := by decide +kernel
theorem dX8_byteAt_25 : decode cX8_byteAt 25 = .ok (.iconst (-1), 1) := by decide +kernel
theorem dX8_byteAt_26 : decode cX8_byteAt 26 = .ok (.ireturn, 1) := by decide +kernel
theorem dX9_init_0 : decode cX9_init 0 = .ok (.aload_n 0, 1) := by decide +kernel
theorem dX9_init_1 : decode cX9_init 1 = .ok (.invokespecial 1, 3) := by decide +kernel
theorem dX9_init_4 : decode cX9_init 4 = .ok (.aload_n 0, 1) := by decide +kernel
theorem dX9_init_5 : decode cX9_init 5 = .ok (.aload_n 1, 1) := by decide +kernel
theorem dX9_init_6 : decode cX9_init 6 = .ok (.putfield 7, 3) := by decide +kernel
theorem dX9_init_9 : decode cX9_init 9 = .ok (.return_, 1) := by decide +kernel
theorem dX9_kind_0 : decode cX9_kind 0 = .ok (.aload_n 0, 1) := by decide +kernel
theorem dX9_kind_1 : decode cX9_kind 1 = .ok (.getfield 13, 3) := by decide +kernel
theorem dX9_kind_4 : decode cX9_kind 4 = .ok (.ireturn, 1) := by decide +kernel
theorem dX9_start_0 : decode cX9_start 0 = .ok (.aload_n 0, 1) := by decide +kernel
theorem dX9_start_1 : decode cX9_start 1 = .ok (.getfield 17, 3) := by decide +kernel
theorem dX9_start_4 : decode cX9_start 4 = .ok (.ireturn, 1) := by decide +kernel
theorem dX9_value_0 : decode cX9_value 0 = .ok (.aload_n 0, 1) := by decide +kernel
theorem dX9_value_1 : decode cX9_value 1 = .ok (.getfield 20, 3) := by decide +kernel
theorem dX9_value_4 : decode cX9_value 4 = .ok (.ireturn, 1) := by decide +kernel
theorem dX9_rewind_0 : decode cX9_rewind 0 = .ok (.aload_n 0, 1) := by decide +kernel
theorem dX9_rewind_1 : decode cX9_rewind 1 = .ok (.iconst 0, 1) := by decide +kernel
theorem dX9_rewind_2 : decode cX9_rewind 2 = .ok (.putfield 23, 3) := by decide +kernel
theorem dX9_rewind_5 : decode cX9_rewind 5 = .ok (.return_, 1) := by decide +kernel
theorem dX9_readNext_0 : decode cX9_readNext 0 = .ok (.aload_n 0, 1) := by decide +kernel
theorem dX9_readNext_1 : decode cX9_readNext 1 = .ok (.invokevirtual 26, 3) := by decide +kernel
theorem dX9_readNext_4 : decode cX9_readNext 4 = .ok (.aload_n 0, 1) := by decide +kernel
theorem dX9_readNext_5 : decode cX9_readNext 5 = .ok (.aload_n 0, 1) := by decide +kernel
theorem dX9_readNext_6 : decode cX9_readNext 6 = .ok (.getfield 23, 3) := by decide +kernel
theorem dX9_readNext_9 : decode cX9_readNext 9 = .ok (.putfield 17, 3) := by decide +kernel
theorem dX9_readNext_12 : decode cX9_readNext 12 = .ok (.aload_n 0, 1) := by decide +kernel
theorem dX9_readNext_13 : decode cX9_readNext 13 = .ok (.getfield 7, 3) := by decide +kernel
theorem dX9_readNext_16 : decode cX9_readNext 16 = .ok (.aload_n 0, 1) := by decide +kernel
theorem dX9_readNext_17 : decode cX9_readNext 17 = .ok (.getfield 17, 3) := by decide +kernel
theorem dX9_readNext_20 : decode cX9_readNext 20 = .ok (.invokevirtual 29, 3) := by decide +kernel
theorem dX9_readNext_23 : decode cX9_readNext 23 = .ok (.istore_n 1, 1) := by decide +kernel
theorem dX9_readNext_24 : decode cX9_readNext 24 = .ok (.iload_n 1, 1) := by decide +kernel
theorem dX9_readNext_25 : decode cX9_readNext 25 = .ok (.iconst (-1), 1) := by decide +kernel
theorem dX9_readNext_26 : decode cX9_readNext 26 = .ok (.if_icmp .ne 11, 3) := by decide +kernel
theorem dX9_readNext_29 : decode cX9_readNext 29 = .ok (.aload_n 0, 1) := by decide +kernel
theorem dX9_readNext_30 : decode cX9_readNext 30 = .ok (.iconst 1, 1) := by decide +kernel
theorem dX9_readNext_31 : decode cX9_readNext 31 = .ok (.putfield 13, 3) := by decide +kernel
theorem dX9_readNext_34 : decode cX9_readNext 34 = .ok (.goto 62, 3) := by decide +kernel
theorem dX9_readNext_37 : decode cX9_readNext 37 = .ok (.iload_n 1, 1) := by decide +kernel
theorem dX9_readNext_38 : decode cX9_readNext 38 = .ok (.invokestatic 35, 3) := by decide +kernel
theorem dX9_readNext_41 : decode cX9_readNext 41 = .ok (.ifCond .eq 10, 3) := by decide +kernel
theorem dX9_readNext_44 : decode cX9_readNext 44 = .ok (.aload_n 0, 1) := by decide +kernel
theorem dX9_readNext_45 : decode cX9_readNext 45 = .ok (.invokevirtual 39, 3) := by decide +kernel
theorem dX9_readNext_48 : decode cX9_readNext 48 = .ok (.goto 48, 3) := by decide +kernel
theorem dX9_readNext_51 : decode cX9_readNext 51 = .ok (.iload_n 1, 1) := by decide +kernel
theorem dX9_readNext_52 : decode cX9_readNext 52 = .ok (.invokestatic 42, 3) := by decide +kernel
theorem dX9_readNext_55 : decode cX9_readNext 55 = .ok (.ifCond .ne 9, 3) := by decide +kernel
theorem dX9_readNext_58 : decode cX9_readNext 58 = .ok (.iload_n 1, 1) := by decide +kernel
theorem dX9_readNext_59 : decode cX9_readNext 59 = .ok (.bipush 45, 2) := by decide +kernel
theorem dX9_readNext_61 : decode cX9_readNext 61 = .ok (.if_icmp .ne 10, 3) := by decide +kernel
theorem dX9_readNext_64 : decode cX9_readNext 64 = .ok (.aload_n 0, 1) := by decide +kernel
theorem dX9_readNext_65 : decode cX9_readNext 65 = .ok (.invokevirtual 45, 3) := by decide +kernel
theorem dX9_readNext_68 : decode cX9_readNext 68 = .ok (.goto 28, 3) := by decide +kernel
theorem dX9_readNext_71 : decode cX9_readNext 71 = .ok (.aload_n 0, 1) := by decide +kernel
theorem dX9_readNext_72 : decode cX9_readNext 72 = .ok (.iload_n 1, 1) := by decide +kernel
theorem dX9_readNext_73 : decode cX9_readNext 73 = .ok (.bipush 59, 2) := by decide +kernel
theorem dX9_readNext_75 : decode cX9_readNext 75 = .ok (.if_icmp .ne 7, 3) := by decide +kernel
theorem dX9_readNext_78 : decode cX9_readNext 78 = .ok (.iconst 4, 1) := by decide +kernel
theorem dX9_readNext_79 : decode cX9_readNext 79 = .ok (.goto 4, 3) := by decide +kernel
theorem dX9_readNext_82 : decode cX9_readNext 82 = .ok (.iconst 0, 1) := by decide +kernel
theorem dX9_readNext_83 : decode cX9_readNext 83 = .ok (.putfield 13, 3) := by decide +kernel
theorem dX9_readNext_86 : decode cX9_readNext 86 = .ok (.aload_n 0, 1) := by decide +kernel
theorem dX9_readNext_87 : decode cX9_readNext 87 = .ok (.dup, 1) := by decide +kernel
theorem dX9_readNext_88 : decode cX9_readNext 88 = .ok (.getfield 23, 3) := by decide +kernel
theorem dX9_readNext_91 : decode cX9_readNext 91 = .ok (.iconst 1, 1) := by decide +kernel
theorem dX9_readNext_92 : decode cX9_readNext 92 = .ok (.iadd, 1) := by decide +kernel
theorem dX9_readNext_93 : decode cX9_readNext 93 = .ok (.putfield 23, 3) := by decide +kernel
theorem dX9_readNext_96 : decode cX9_readNext 96 = .ok (.return_, 1) := by decide +kernel
theorem dX9_spells_0 : decode cX9_spells 0 = .ok (.aload_n 0, 1) := by decide +kernel
theorem dX9_spells_1 : decode cX9_spells 1 = .ok (.getfield 23, 3) := by decide +kernel
theorem dX9_spells_4 : decode cX9_spells 4 = .ok (.aload_n 0, 1) := by decide +kernel
theorem dX9_spells_5 : decode cX9_spells 5 = .ok (.getfield 17, 3) := by decide +kernel
theorem dX9_spells_8 : decode cX9_spells 8 = .ok (.isub, 1) := by decide +kernel
theorem dX9_spells_9 : decode cX9_spells 9 = .ok (.aload_n 1, 1) := by decide +kernel
theorem dX9_spells_10 : decode cX9_spells 10 = .ok (.invokevirtual 48, 3) := by decide +kernel
theorem dX9_spells_13 : decode cX9_spells 13 = .ok (.if_icmp .ne 7, 3) := by decide +kernel
theorem dX9_spells_16 : decode cX9_spells 16 = .ok (.iconst 1, 1) := by decide +kernel
theorem dX9_spells_17 : decode cX9_spells 17 = .ok (.goto 4, 3) := by decide +kernel
theorem dX9_spells_20 : decode cX9_spells 20 = .ok (.iconst 0, 1) := by decide +kernel
theorem dX9_spells_21 : decode cX9_spells 21 = .ok (.istore_n 2, 1) := by decide +kernel
theorem dX9_spells_22 : decode cX9_spells 22 = .ok (.iconst 0, 1) := by decide +kernel
theorem dX9_spells_23 : decode cX9_spells 23 = .ok (.istore_n 3, 1) := by decide +kernel
theorem dX9_spells_24 : decode cX9_spells 24 = .ok (.iload_n 2, 1) := by decide +kernel
theorem dX9_spells_25 : decode cX9_spells 25 = .ok (.ifCond .eq 44, 3) := by decide +kernel
theorem dX9_spells_28 : decode cX9_spells 28 = .ok (.iload_n 3, 1) := by decide +kernel
theorem dX9_spells_29 : decode cX9_spells 29 = .ok (.aload_n 1, 1) := by decide +kernel
theorem dX9_spells_30 : decode cX9_spells 30 = .ok (.invokevirtual 48, 3) := by decide +kernel
theorem dX9_spells_33 : decode cX9_spells 33 = .ok (.if_icmp .ge 36, 3) := by decide +kernel
theorem dX9_spells_36 : decode cX9_spells 36 = .ok (.aload_n 0, 1) := by decide +kernel
theorem dX9_spells_37 : decode cX9_spells 37 = .ok (.getfield 7, 3) := by decide +kernel
theorem dX9_spells_40 : decode cX9_spells 40 = .ok (.aload_n 0, 1) := by decide +kernel
theorem dX9_spells_41 : decode cX9_spells 41 = .ok (.getfield 17, 3) := by decide +kernel
theorem dX9_spells_44 : decode cX9_spells 44 = .ok (.iload_n 3, 1) := by decide +kernel
theorem dX9_spells_45 : decode cX9_spells 45 = .ok (.iadd, 1) := by decide +kernel
theorem dX9_spells_46 : decode cX9_spells 46 = .ok (.invokevirtual 29, 3) := by decide +kernel
theorem dX9_spells_49 : decode cX9_spells 49 = .ok (.aload_n 1, 1) := by decide +kernel
theorem dX9_spells_50 : decode cX9_spells 50 = .ok (.iload_n 3, 1) := by decide +kernel
theorem dX9_spells_51 : decode cX9_spells 51 = .ok (.invokevirtual 54, 3) := by decide +kernel
theorem dX9_spells_54 : decode cX9_spells 54 = .ok (.if_icmp .ne 7, 3) := by decide +kernel
theorem dX9_spells_57 : decode cX9_spells 57 = .ok (.iconst 1, 1) := by decide +kernel
theorem dX9_spells_58 : decode cX9_spells 58 = .ok (.goto 4, 3) := by decide +kernel
theorem dX9_spells_61 : decode cX9_spells 61 = .ok (.iconst 0, 1) := by decide +kernel
theorem dX9_spells_62 : decode cX9_spells 62 = .ok (.istore_n 2, 1) := by decide +kernel
theorem dX9_spells_63 : decode cX9_spells 63 = .ok (.iinc 3 1, 3) := by decide +kernel
theorem dX9_spells_66 : decode cX9_spells 66 = .ok (.goto (-42), 3) := by decide +kernel
theorem dX9_spells_69 : decode cX9_spells 69 = .ok (.iload_n 2, 1) := by decide +kernel
theorem dX9_spells_70 : decode cX9_spells 70 = .ok (.ireturn, 1) := by decide +kernel
theorem dX9_skipBlanks_0 : decode cX9_skipBlanks 0 = .ok (.aload_n 0, 1) := by decide +kernel
theorem dX9_skipBlanks_1 : decode cX9_skipBlanks 1 = .ok (.getfield 23, 3) := by decide +kernel
theorem dX9_skipBlanks_4 : decode cX9_skipBlanks 4 = .ok (.aload_n 0, 1) := by decide +kernel
theorem dX9_skipBlanks_5 : decode cX9_skipBlanks 5 = .ok (.getfield 7, 3) := by decide +kernel
theorem dX9_skipBlanks_8 : decode cX9_skipBlanks 8 = .ok (.invokevirtual 58, 3) := by decide +kernel
theorem dX9_skipBlanks_11 : decode cX9_skipBlanks 11 = .ok (.if_icmp .ge 33, 3) := by decide +kernel
theorem dX9_skipBlanks_14 : decode cX9_skipBlanks 14 = .ok (.aload_n 0, 1) := by decide +kernel
theorem dX9_skipBlanks_15 : decode cX9_skipBlanks 15 = .ok (.getfield 7, 3) := by decide +kernel
theorem dX9_skipBlanks_18 : decode cX9_skipBlanks 18 = .ok (.aload_n 0, 1) := by decide +kernel
theorem dX9_skipBlanks_19 : decode cX9_skipBlanks 19 = .ok (.getfield 23, 3) := by decide +kernel
theorem dX9_skipBlanks_22 : decode cX9_skipBlanks 22 = .ok (.invokevirtual 29, 3) := by decide +kernel
theorem dX9_skipBlanks_25 : decode cX9_skipBlanks 25 = .ok (.invokestatic 61, 3) := by decide +kernel
theorem dX9_skipBlanks_28 : decode cX9_skipBlanks 28 = .ok (.ifCond .eq 16, 3) := by decide +kernel
theorem dX9_skipBlanks_31 : decode cX9_skipBlanks 31 = .ok (.aload_n 0, 1) := by decide +kernel
theorem dX9_skipBlanks_32 : decode cX9_skipBlanks 32 = .ok (.dup, 1) := by decide +kernel
theorem dX9_skipBlanks_33 : decode cX9_skipBlanks 33 = .ok (.getfield 23, 3) := by decide +kernel
theorem dX9_skipBlanks_36 : decode cX9_skipBlanks 36 = .ok (.iconst 1, 1) := by decide +kernel
theorem dX9_skipBlanks_37 : decode cX9_skipBlanks 37 = .ok (.iadd, 1) := by decide +kernel
theorem dX9_skipBlanks_38 : decode cX9_skipBlanks 38 = .ok (.putfield 23, 3) := by decide +kernel
theorem dX9_skipBlanks_41 : decode cX9_skipBlanks 41 = .ok (.goto (-41), 3) := by decide +kernel
theorem dX9_skipBlanks_44 : decode cX9_skipBlanks 44 = .ok (.return_, 1) := by decide +kernel
theorem dX9_readWord_0 : decode cX9_readWord 0 = .ok (.aload_n 0, 1) := by decide +kernel
theorem dX9_readWord_1 : decode cX9_readWord 1 = .ok (.getfield 23, 3) := by decide +kernel
theorem dX9_readWord_4 : decode cX9_readWord 4 = .ok (.aload_n 0, 1) := by decide +kernel
theorem dX9_readWord_5 : decode cX9_readWord 5 = .ok (.getfield 7, 3) := by decide +kernel
theorem dX9_readWord_8 : decode cX9_readWord 8 = .ok (.invokevirtual 58, 3) := by decide +kernel
theorem dX9_readWord_11 : decode cX9_readWord 11 = .ok (.if_icmp .ge 33, 3) := by decide +kernel
theorem dX9_readWord_14 : decode cX9_readWord 14 = .ok (.aload_n 0, 1) := by decide +kernel
theorem dX9_readWord_15 : decode cX9_readWord 15 = .ok (.getfield 7, 3) := by decide +kernel
theorem dX9_readWord_18 : decode cX9_readWord 18 = .ok (.aload_n 0, 1) := by decide +kernel
theorem dX9_readWord_19 : decode cX9_readWord 19 = .ok (.getfield 23, 3) := by decide +kernel
theorem dX9_readWord_22 : decode cX9_readWord 22 = .ok (.invokevirtual 29, 3) := by decide +kernel
theorem dX9_readWord_25 : decode cX9_readWord 25 = .ok (.invokestatic 35, 3) := by decide +kernel
theorem dX9_readWord_28 : decode cX9_readWord 28 = .ok (.ifCond .eq 16, 3) := by decide +kernel
theorem dX9_readWord_31 : decode cX9_readWord 31 = .ok (.aload_n 0, 1) := by decide +kernel
theorem dX9_readWord_32 : decode cX9_readWord 32 = .ok (.dup, 1) := by decide +kernel
theorem dX9_readWord_33 : decode cX9_readWord 33 = .ok (.getfield 23, 3) := by decide +kernel
theorem dX9_readWord_36 : decode cX9_readWord 36 = .ok (.iconst 1, 1) := by decide +kernel
theorem dX9_readWord_37 : decode cX9_readWord 37 = .ok (.iadd, 1) := by decide +kernel
theorem dX9_readWord_38 : decode cX9_readWord 38 = .ok (.putfield 23, 3) := by decide +kernel
theorem dX9_readWord_41 : decode cX9_readWord 41 = .ok (.goto (-41), 3) := by decide +kernel
theorem dX9_readWord_44 : decode cX9_readWord 44 = .ok (.aload_n 0, 1) := by decide +kernel
theorem dX9_readWord_45 : decode cX9_readWord 45 = .ok (.aload_n 0, 1) := by decide +kernel
theorem dX9_readWord_46 : decode cX9_readWord 46 = .ok (.getfield 23, 3) := by decide +kernel
theorem dX9_readWord_49 : decode cX9_readWord 49 = .ok (.aload_n 0, 1) := by decide +kernel
theorem dX9_readWord_50 : decode cX9_readWord 50 = .ok (.getfield 17, 3) := by decide +kernel
theorem dX9_readWord_53 : decode cX9_readWord 53 = .ok (.isub, 1) := by decide +kernel
theorem dX9_readWord_54 : decode cX9_readWord 54 = .ok (.bipush 8, 2) := by decide +kernel
theorem dX9_readWord_56 : decode cX9_readWord 56 = .ok (.if_icmp .gt 7, 3) := by decide +kernel
theorem dX9_readWord_59 : decode cX9_readWord 59 = .ok (.iconst 2, 1) := by decide +kernel
theorem dX9_readWord_60 : decode cX9_readWord 60 = .ok (.goto 4, 3) := by decide +kernel
theorem dX9_readWord_63 : decode cX9_readWord 63 = .ok (.iconst 0, 1) := by decide +kernel
theorem dX9_readWord_64 : decode cX9_readWord 64 = .ok (.putfield 13, 3) := by decide +kernel
theorem dX9_readWord_67 : decode cX9_readWord 67 = .ok (.return_, 1) := by decide +kernel
theorem dX9_readNumber_0 : decode cX9_readNumber 0 = .ok (.aload_n 0, 1) := by decide +kernel
theorem dX9_readNumber_1 : decode cX9_readNumber 1 = .ok (.getfield 7, 3) := by decide +kernel
theorem dX9_readNumber_4 : decode cX9_readNumber 4 = .ok (.aload_n 0, 1) := by decide +kernel
theorem dX9_readNumber_5 : decode cX9_readNumber 5 = .ok (.getfield 17, 3) := by decide +kernel
theorem dX9_readNumber_8 : decode cX9_readNumber 8 = .ok (.invokevirtual 29, 3) := by decide +kernel
theorem dX9_readNumber_11 : decode cX9_readNumber 11 = .ok (.bipush 45, 2) := by decide +kernel
theorem dX9_readNumber_13 : decode cX9_readNumber 13 = .ok (.if_icmp .ne 7, 3) := by decide +kernel
theorem dX9_readNumber_16 : decode cX9_readNumber 16 = .ok (.iconst 1, 1) := by decide +kernel
theorem dX9_readNumber_17 : decode cX9_readNumber 17 = .ok (.goto 4, 3) := by decide +kernel
theorem dX9_readNumber_20 : decode cX9_readNumber 20 = .ok (.iconst 0, 1) := by decide +kernel
theorem dX9_readNumber_21 : decode cX9_readNumber 21 = .ok (.istore_n 1, 1) := by decide +kernel
theorem dX9_readNumber_22 : decode cX9_readNumber 22 = .ok (.iload_n 1, 1) := by decide +kernel
theorem dX9_readNumber_23 : decode cX9_readNumber 23 = .ok (.ifCond .eq 12, 3) := by decide +kernel
theorem dX9_readNumber_26 : decode cX9_readNumber 26 = .ok (.aload_n 0, 1) := by decide +kernel
theorem dX9_readNumber_27 : decode cX9_readNumber 27 = .ok (.getfield 17, 3) := by decide +kernel
theorem dX9_readNumber_30 : decode cX9_readNumber 30 = .ok (.iconst 1, 1) := by decide +kernel
theorem dX9_readNumber_31 : decode cX9_readNumber 31 = .ok (.iadd, 1) := by decide +kernel
theorem dX9_readNumber_32 : decode cX9_readNumber 32 = .ok (.goto 7, 3) := by decide +kernel
theorem dX9_readNumber_35 : decode cX9_readNumber 35 = .ok (.aload_n 0, 1) := by decide +kernel
theorem dX9_readNumber_36 : decode cX9_readNumber 36 = .ok (.getfield 17, 3) := by decide +kernel
theorem dX9_readNumber_39 : decode cX9_readNumber 39 = .ok (.istore_n 2, 1) := by decide +kernel
theorem dX9_readNumber_40 : decode cX9_readNumber 40 = .ok (.iconst 0, 1) := by decide +kernel
theorem dX9_readNumber_41 : decode cX9_readNumber 41 = .ok (.istore_n 3, 1) := by decide +kernel
theorem dX9_readNumber_42 : decode cX9_readNumber 42 = .ok (.aload_n 0, 1) := by decide +kernel
theorem dX9_readNumber_43 : decode cX9_readNumber 43 = .ok (.iload_n 2, 1) := by decide +kernel
theorem dX9_readNumber_44 : decode cX9_readNumber 44 = .ok (.putfield 23, 3) := by decide +kernel
theorem dX9_readNumber_47 : decode cX9_readNumber 47 = .ok (.aload_n 0, 1) := by decide +kernel
theorem dX9_readNumber_48 : decode cX9_readNumber 48 = .ok (.getfield 23, 3) := by decide +kernel
theorem dX9_readNumber_51 : decode cX9_readNumber 51 = .ok (.aload_n 0, 1) := by decide +kernel
theorem dX9_readNumber_52 : decode cX9_readNumber 52 = .ok (.getfield 7, 3) := by decide +kernel
theorem dX9_readNumber_55 : decode cX9_readNumber 55 = .ok (.invokevirtual 58, 3) := by decide +kernel
theorem dX9_readNumber_58 : decode cX9_readNumber 58 = .ok (.if_icmp .ge 53, 3) := by decide +kernel
theorem dX9_readNumber_61 : decode cX9_readNumber 61 = .ok (.aload_n 0, 1) := by decide +kernel
theorem dX9_readNumber_62 : decode cX9_readNumber 62 = .ok (.getfield 7, 3) := by decide +kernel
theorem dX9_readNumber_65 : decode cX9_readNumber 65 = .ok (.aload_n 0, 1) := by decide +kernel
theorem dX9_readNumber_66 : decode cX9_readNumber 66 = .ok (.getfield 23, 3) := by decide +kernel
theorem dX9_readNumber_69 : decode cX9_readNumber 69 = .ok (.invokevirtual 29, 3) := by decide +kernel
theorem dX9_readNumber_72 : decode cX9_readNumber 72 = .ok (.invokestatic 42, 3) := by decide +kernel
theorem dX9_readNumber_75 : decode cX9_readNumber 75 = .ok (.ifCond .eq 36, 3) := by decide +kernel
theorem dX9_readNumber_78 : decode cX9_readNumber 78 = .ok (.iload_n 3, 1) := by decide +kernel
theorem dX9_readNumber_79 : decode cX9_readNumber 79 = .ok (.bipush 10, 2) := by decide +kernel
theorem dX9_readNumber_81 : decode cX9_readNumber 81 = .ok (.imul, 1) := by decide +kernel
theorem dX9_readNumber_82 : decode cX9_readNumber 82 = .ok (.aload_n 0, 1) := by decide +kernel
theorem dX9_readNumber_83 : decode cX9_readNumber 83 = .ok (.getfield 7, 3) := by decide +kernel
theorem dX9_readNumber_86 : decode cX9_readNumber 86 = .ok (.aload_n 0, 1) := by decide +kernel
theorem dX9_readNumber_87 : decode cX9_readNumber 87 = .ok (.getfield 23, 3) := by decide +kernel
theorem dX9_readNumber_90 : decode cX9_readNumber 90 = .ok (.invokevirtual 29, 3) := by decide +kernel
theorem dX9_readNumber_93 : decode cX9_readNumber 93 = .ok (.iadd, 1) := by decide +kernel
theorem dX9_readNumber_94 : decode cX9_readNumber 94 = .ok (.bipush 48, 2) := by decide +kernel
theorem dX9_readNumber_96 : decode cX9_readNumber 96 = .ok (.isub, 1) := by decide +kernel
theorem dX9_readNumber_97 : decode cX9_readNumber 97 = .ok (.istore_n 3, 1) := by decide +kernel
theorem dX9_readNumber_98 : decode cX9_readNumber 98 = .ok (.aload_n 0, 1) := by decide +kernel
theorem dX9_readNumber_99 : decode cX9_readNumber 99 = .ok (.dup, 1) := by decide +kernel
theorem dX9_readNumber_100 : decode cX9_readNumber 100 = .ok (.getfield 23, 3) := by decide +kernel
theorem dX9_readNumber_103 : decode cX9_readNumber 103 = .ok (.iconst 1, 1) := by decide +kernel
theorem dX9_readNumber_104 : decode cX9_readNumber 104 = .ok (.iadd, 1) := by decide +kernel
theorem dX9_readNumber_105 : decode cX9_readNumber 105 = .ok (.putfield 23, 3) := by decide +kernel
theorem dX9_readNumber_108 : decode cX9_readNumber 108 = .ok (.goto (-61), 3) := by decide +kernel
theorem dX9_readNumber_111 : decode cX9_readNumber 111 = .ok (.aload_n 0, 1) := by decide +kernel
theorem dX9_readNumber_112 : decode cX9_readNumber 112 = .ok (.getfield 23, 3) := by decide +kernel
theorem dX9_readNumber_115 : decode cX9_readNumber 115 = .ok (.iload_n 2, 1) := by decide +kernel
theorem dX9_readNumber_116 : decode cX9_readNumber 116 = .ok (.isub, 1) := by decide +kernel
theorem dX9_readNumber_117 : decode cX9_readNumber 117 = .ok (.istore 4, 2) := by decide +kernel
theorem dX9_readNumber_119 : decode cX9_readNumber 119 = .ok (.iload 4, 2) := by decide +kernel
theorem dX9_readNumber_121 : decode cX9_readNumber 121 = .ok (.iconst 1, 1) := by decide +kernel
theorem dX9_readNumber_122 : decode cX9_readNumber 122 = .ok (.if_icmp .lt 30, 3) := by decide +kernel
theorem dX9_readNumber_125 : decode cX9_readNumber 125 = .ok (.iload 4, 2) := by decide +kernel
theorem dX9_readNumber_127 : decode cX9_readNumber 127 = .ok (.iconst 3, 1) := by decide +kernel
theorem dX9_readNumber_128 : decode cX9_readNumber 128 = .ok (.if_icmp .gt 24, 3) := by decide +kernel
theorem dX9_readNumber_131 : decode cX9_readNumber 131 = .ok (.aload_n 0, 1) := by decide +kernel
theorem dX9_readNumber_132 : decode cX9_readNumber 132 = .ok (.getfield 7, 3) := by decide +kernel
theorem dX9_readNumber_135 : decode cX9_readNumber 135 = .ok (.aload_n 0, 1) := by decide +kernel
theorem dX9_readNumber_136 : decode cX9_readNumber 136 = .ok (.getfield 23, 3) := by decide +kernel
theorem dX9_readNumber_139 : decode cX9_readNumber 139 = .ok (.invokevirtual 29, 3) := by decide +kernel
theorem dX9_readNumber_142 : decode cX9_readNumber 142 = .ok (.invokestatic 35, 3) := by decide +kernel
theorem dX9_readNumber_145 : decode cX9_readNumber 145 = .ok (.ifCond .ne 7, 3) := by decide +kernel
theorem dX9_readNumber_148 : decode cX9_readNumber 148 = .ok (.iconst 1, 1) := by decide +kernel
theorem dX9_readNumber_149 : decode cX9_readNumber 149 = .ok (.goto 4, 3) := by decide +kernel
theorem dX9_readNumber_152 : decode cX9_readNumber 152 = .ok (.iconst 0, 1) := by decide +kernel
theorem dX9_readNumber_153 : decode cX9_readNumber 153 = .ok (.istore 5, 2) := by decide +kernel
theorem dX9_readNumber_155 : decode cX9_readNumber 155 = .ok (.aload_n 0, 1) := by decide +kernel
theorem dX9_readNumber_156 : decode cX9_readNumber 156 = .ok (.iload 5, 2) := by decide +kernel
theorem dX9_readNumber_158 : decode cX9_readNumber 158 = .ok (.ifCond .eq 7, 3) := by decide +kernel
theorem dX9_readNumber_161 : decode cX9_readNumber 161 = .ok (.iconst 3, 1) := by decide +kernel
theorem dX9_readNumber_162 : decode cX9_readNumber 162 = .ok (.goto 4, 3) := by decide +kernel
theorem dX9_readNumber_165 : decode cX9_readNumber 165 = .ok (.iconst 0, 1) := by decide +kernel
theorem dX9_readNumber_166 : decode cX9_readNumber 166 = .ok (.putfield 13, 3) := by decide +kernel
theorem dX9_readNumber_169 : decode cX9_readNumber 169 = .ok (.aload_n 0, 1) := by decide +kernel
theorem dX9_readNumber_170 : decode cX9_readNumber 170 = .ok (.iload_n 1, 1) := by decide +kernel
theorem dX9_readNumber_171 : decode cX9_readNumber 171 = .ok (.ifCond .eq 8, 3) := by decide +kernel
theorem dX9_readNumber_174 : decode cX9_readNumber 174 = .ok (.iload_n 3, 1) := by decide +kernel
theorem dX9_readNumber_175 : decode cX9_readNumber 175 = .ok (.ineg, 1) := by decide +kernel
theorem dX9_readNumber_176 : decode cX9_readNumber 176 = .ok (.goto 4, 3) := by decide +kernel
theorem dX9_readNumber_179 : decode cX9_readNumber 179 = .ok (.iload_n 3, 1) := by decide +kernel
theorem dX9_readNumber_180 : decode cX9_readNumber 180 = .ok (.putfield 20, 3) := by decide +kernel
theorem dX9_readNumber_183 : decode cX9_readNumber 183 = .ok (.return_, 1) := by decide +kernel
theorem dX9_isBlank_0 : decode cX9_isBlank 0 = .ok (.iload_n 0, 1) := by decide +kernel
theorem dX9_isBlank_1 : decode cX9_isBlank 1 = .ok (.bipush 32, 2) := by decide +kernel
theorem dX9_isBlank_3 : decode cX9_isBlank 3 = .ok (.if_icmp .eq 9, 3) := by decide +kernel
theorem dX9_isBlank_6 : decode cX9_isBlank 6 = .ok (.iload_n 0, 1) := by decide +kernel
theorem dX9_isBlank_7 : decode cX9_isBlank 7 = .ok (.bipush 10, 2) := by decide +kernel
theorem dX9_isBlank_9 : decode cX9_isBlank 9 = .ok (.if_icmp .ne 7, 3) := by decide +kernel
theorem dX9_isBlank_12 : decode cX9_isBlank 12 = .ok (.iconst 1, 1) := by decide +kernel
theorem dX9_isBlank_13 : decode cX9_isBlank 13 = .ok (.goto 4, 3) := by decide +kernel
theorem dX9_isBlank_16 : decode cX9_isBlank 16 = .ok (.iconst 0, 1) := by decide +kernel
theorem dX9_isBlank_17 : decode cX9_isBlank 17 = .ok (.ireturn, 1) := by decide +kernel
theorem dX9_isLetter_0 : decode cX9_isLetter 0 = .ok (.iload_n 0, 1) := by decide +kernel
theorem dX9_isLetter_1 : decode cX9_isLetter 1 = .ok (.bipush 97, 2) := by decide +kernel
theorem dX9_isLetter_3 : decode cX9_isLetter 3 = .ok (.if_icmp .lt 13, 3) := by decide +kernel
theorem dX9_isLetter_6 : decode cX9_isLetter 6 = .ok (.iload_n 0, 1) := by decide +kernel
theorem dX9_isLetter_7 : decode cX9_isLetter 7 = .ok (.bipush 122, 2) := by decide +kernel
theorem dX9_isLetter_9 : decode cX9_isLetter 9 = .ok (.if_icmp .gt 7, 3) := by decide +kernel
theorem dX9_isLetter_12 : decode cX9_isLetter 12 = .ok (.iconst 1, 1) := by decide +kernel
theorem dX9_isLetter_13 : decode cX9_isLetter 13 = .ok (.goto 4, 3) := by decide +kernel
theorem dX9_isLetter_16 : decode cX9_isLetter 16 = .ok (.iconst 0, 1) := by decide +kernel
theorem dX9_isLetter_17 : decode cX9_isLetter 17 = .ok (.ireturn, 1) := by decide +kernel
theorem dX9_isDigit_0 : decode cX9_isDigit 0 = .ok (.iload_n 0, 1) := by decide +kernel
theorem dX9_isDigit_1 : decode cX9_isDigit 1 = .ok (.bipush 48, 2) := by decide +kernel
theorem dX9_isDigit_3 : decode cX9_isDigit 3 = .ok (.if_icmp .lt 13, 3) := by decide +kernel
theorem dX9_isDigit_6 : decode cX9_isDigit 6 = .ok (.iload_n 0, 1) := by decide +kernel
theorem dX9_isDigit_7 : decode cX9_isDigit 7 = .ok (.bipush 57, 2) := by decide +kernel
theorem dX9_isDigit_9 : decode cX9_isDigit 9 = .ok (.if_icmp .gt 7, 3) := by decide +kernel
theorem dX9_isDigit_12 : decode cX9_isDigit 12 = .ok (.iconst 1, 1) := by decide +kernel
theorem dX9_isDigit_13 : decode cX9_isDigit 13 = .ok (.goto 4, 3) := by decide +kernel
theorem dX9_isDigit_16 : decode cX9_isDigit 16 = .ok (.iconst 0, 1) := by decide +kernel
theorem dX9_isDigit_17 : decode cX9_isDigit 17 = .ok (.ireturn, 1) := by decide +kernel
