theorem dX10_init_0 : decode cX10_init 0 = .ok (.aload_n 0, 1) := by decide +kernel
theorem dX10_init_1 : decode cX10_init 1 = .ok (.invokespecial 1, 3) := by decide +kernel
theorem dX10_init_4 : decode cX10_init 4 = .ok (.aload_n 0, 1) := by decide +kernel
theorem dX10_init_5 : decode cX10_init 5 = .ok (.new 7, 3) := by decide +kernel
theorem dX10_init_8 : decode cX10_init 8 = .ok (.dup, 1) := by decide +kernel
theorem dX10_init_9 : decode cX10_init 9 = .ok (.invokespecial 9, 3) := by decide +kernel
theorem dX10_init_12 : decode cX10_init 12 = .ok (.putfield 10, 3) := by decide +kernel
theorem dX10_init_15 : decode cX10_init 15 = .ok (.aload_n 0, 1) := by decide +kernel
theorem dX10_init_16 : decode cX10_init 16 = .ok (.new 16, 3) := by decide +kernel
theorem dX10_init_19 : decode cX10_init 19 = .ok (.dup, 1) := by decide +kernel
theorem dX10_init_20 : decode cX10_init 20 = .ok (.aload_n 0, 1) := by decide +kernel
theorem dX10_init_21 : decode cX10_init 21 = .ok (.getfield 10, 3) := by decide +kernel
theorem dX10_init_24 : decode cX10_init 24 = .ok (.invokespecial 18, 3) := by decide +kernel
theorem dX10_init_27 : decode cX10_init 27 = .ok (.putfield 21, 3) := by decide +kernel
theorem dX10_init_30 : decode cX10_init 30 = .ok (.aload_n 0, 1) := by decide +kernel
theorem dX10_init_31 : decode cX10_init 31 = .ok (.new 25, 3) := by decide +kernel
theorem dX10_init_34 : decode cX10_init 34 = .ok (.dup, 1) := by decide +kernel
theorem dX10_init_35 : decode cX10_init 35 = .ok (.invokespecial 27, 3) := by decide +kernel
theorem dX10_init_38 : decode cX10_init 38 = .ok (.putfield 28, 3) := by decide +kernel
theorem dX10_init_41 : decode cX10_init 41 = .ok (.aload_n 0, 1) := by decide +kernel
theorem dX10_init_42 : decode cX10_init 42 = .ok (.new 25, 3) := by decide +kernel
theorem dX10_init_45 : decode cX10_init 45 = .ok (.dup, 1) := by decide +kernel
theorem dX10_init_46 : decode cX10_init 46 = .ok (.invokespecial 27, 3) := by decide +kernel
theorem dX10_init_49 : decode cX10_init 49 = .ok (.putfield 32, 3) := by decide +kernel
theorem dX10_init_52 : decode cX10_init 52 = .ok (.aload_n 0, 1) := by decide +kernel
theorem dX10_init_53 : decode cX10_init 53 = .ok (.new 35, 3) := by decide +kernel
theorem dX10_init_56 : decode cX10_init 56 = .ok (.dup, 1) := by decide +kernel
theorem dX10_init_57 : decode cX10_init 57 = .ok (.invokespecial 37, 3) := by decide +kernel
theorem dX10_init_60 : decode cX10_init 60 = .ok (.putfield 38, 3) := by decide +kernel
theorem dX10_init_63 : decode cX10_init 63 = .ok (.aload_n 0, 1) := by decide +kernel
theorem dX10_init_64 : decode cX10_init 64 = .ok (.bipush 64, 2) := by decide +kernel
theorem dX10_init_66 : decode cX10_init 66 = .ok (.newarray .long, 2) := by decide +kernel
theorem dX10_init_68 : decode cX10_init 68 = .ok (.putfield 42, 3) := by decide +kernel
theorem dX10_init_71 : decode cX10_init 71 = .ok (.aload_n 0, 1) := by decide +kernel
theorem dX10_init_72 : decode cX10_init 72 = .ok (.new 46, 3) := by decide +kernel
theorem dX10_init_75 : decode cX10_init 75 = .ok (.dup, 1) := by decide +kernel
theorem dX10_init_76 : decode cX10_init 76 = .ok (.invokespecial 48, 3) := by decide +kernel
theorem dX10_init_79 : decode cX10_init 79 = .ok (.putfield 49, 3) := by decide +kernel
theorem dX10_init_82 : decode cX10_init 82 = .ok (.aload_n 0, 1) := by decide +kernel
theorem dX10_init_83 : decode cX10_init 83 = .ok (.new 46, 3) := by decide +kernel
theorem dX10_init_86 : decode cX10_init 86 = .ok (.dup, 1) := by decide +kernel
theorem dX10_init_87 : decode cX10_init 87 = .ok (.invokespecial 48, 3) := by decide +kernel
theorem dX10_init_90 : decode cX10_init 90 = .ok (.putfield 53, 3) := by decide +kernel
theorem dX10_init_93 : decode cX10_init 93 = .ok (.return_, 1) := by decide +kernel
theorem dX10_feed_0 : decode cX10_feed 0 = .ok (.aload_n 0, 1) := by decide +kernel
theorem dX10_feed_1 : decode cX10_feed 1 = .ok (.getfield 10, 3) := by decide +kernel
theorem dX10_feed_4 : decode cX10_feed 4 = .ok (.bipush 20, 2) := by decide +kernel
theorem dX10_feed_6 : decode cX10_feed 6 = .ok (.invokevirtual 56, 3) := by decide +kernel
theorem dX10_feed_9 : decode cX10_feed 9 = .ok (.ifCond .ne 5, 3) := by decide +kernel
theorem dX10_feed_12 : decode cX10_feed 12 = .ok (.iconst (-1), 1) := by decide +kernel
theorem dX10_feed_13 : decode cX10_feed 13 = .ok (.ireturn, 1) := by decide +kernel
theorem dX10_feed_14 : decode cX10_feed 14 = .ok (.aload_n 0, 1) := by decide +kernel
theorem dX10_feed_15 : decode cX10_feed 15 = .ok (.getfield 10, 3) := by decide +kernel
theorem dX10_feed_18 : decode cX10_feed 18 = .ok (.iload_n 1, 1) := by decide +kernel
theorem dX10_feed_19 : decode cX10_feed 19 = .ok (.invokevirtual 60, 3) := by decide +kernel
theorem dX10_feed_22 : decode cX10_feed 22 = .ok (.aload_n 0, 1) := by decide +kernel
theorem dX10_feed_23 : decode cX10_feed 23 = .ok (.getfield 10, 3) := by decide +kernel
theorem dX10_feed_26 : decode cX10_feed 26 = .ok (.iload_n 2, 1) := by decide +kernel
theorem dX10_feed_27 : decode cX10_feed 27 = .ok (.invokevirtual 60, 3) := by decide +kernel
theorem dX10_feed_30 : decode cX10_feed 30 = .ok (.aload_n 0, 1) := by decide +kernel
theorem dX10_feed_31 : decode cX10_feed 31 = .ok (.getfield 10, 3) := by decide +kernel
theorem dX10_feed_34 : decode cX10_feed 34 = .ok (.iload_n 3, 1) := by decide +kernel
theorem dX10_feed_35 : decode cX10_feed 35 = .ok (.invokevirtual 60, 3) := by decide +kernel
theorem dX10_feed_38 : decode cX10_feed 38 = .ok (.aload_n 0, 1) := by decide +kernel
theorem dX10_feed_39 : decode cX10_feed 39 = .ok (.getfield 10, 3) := by decide +kernel
theorem dX10_feed_42 : decode cX10_feed 42 = .ok (.iload 4, 2) := by decide +kernel
theorem dX10_feed_44 : decode cX10_feed 44 = .ok (.invokevirtual 60, 3) := by decide +kernel
theorem dX10_feed_47 : decode cX10_feed 47 = .ok (.aload_n 0, 1) := by decide +kernel
theorem dX10_feed_48 : decode cX10_feed 48 = .ok (.getfield 10, 3) := by decide +kernel
theorem dX10_feed_51 : decode cX10_feed 51 = .ok (.iload 5, 2) := by decide +kernel
theorem dX10_feed_53 : decode cX10_feed 53 = .ok (.invokevirtual 60, 3) := by decide +kernel
theorem dX10_feed_56 : decode cX10_feed 56 = .ok (.aload_n 0, 1) := by decide +kernel
theorem dX10_feed_57 : decode cX10_feed 57 = .ok (.getfield 10, 3) := by decide +kernel
theorem dX10_feed_60 : decode cX10_feed 60 = .ok (.invokevirtual 64, 3) := by decide +kernel
theorem dX10_feed_63 : decode cX10_feed 63 = .ok (.ireturn, 1) := by decide +kernel
theorem dX10_end_0 : decode cX10_end 0 = .ok (.iload_n 1, 1) := by decide +kernel
theorem dX10_end_1 : decode cX10_end 1 = .ok (.iconst 0, 1) := by decide +kernel
theorem dX10_end_2 : decode cX10_end 2 = .ok (.aload_n 0, 1) := by decide +kernel
theorem dX10_end_3 : decode cX10_end 3 = .ok (.getfield 10, 3) := by decide +kernel
theorem dX10_end_6 : decode cX10_end 6 = .ok (.invokevirtual 64, 3) := by decide +kernel
theorem dX10_end_9 : decode cX10_end 9 = .ok (.invokestatic 68, 3) := by decide +kernel
theorem dX10_end_12 : decode cX10_end 12 = .ok (.ifCond .ne 5, 3) := by decide +kernel
theorem dX10_end_15 : decode cX10_end 15 = .ok (.iconst (-1), 1) := by decide +kernel
theorem dX10_end_16 : decode cX10_end 16 = .ok (.ireturn, 1) := by decide +kernel
theorem dX10_end_17 : decode cX10_end 17 = .ok (.aload_n 0, 1) := by decide +kernel
theorem dX10_end_18 : decode cX10_end 18 = .ok (.getfield 10, 3) := by decide +kernel
theorem dX10_end_21 : decode cX10_end 21 = .ok (.iload_n 1, 1) := by decide +kernel
theorem dX10_end_22 : decode cX10_end 22 = .ok (.invokevirtual 72, 3) := by decide +kernel
theorem dX10_end_25 : decode cX10_end 25 = .ok (.iload_n 1, 1) := by decide +kernel
theorem dX10_end_26 : decode cX10_end 26 = .ok (.ireturn, 1) := by decide +kernel
theorem dX10_sea_0 : decode cX10_sea 0 = .ok (.aload_n 0, 1) := by decide +kernel
theorem dX10_sea_1 : decode cX10_sea 1 = .ok (.getfield 21, 3) := by decide +kernel
theorem dX10_sea_4 : decode cX10_sea 4 = .ok (.aload_n 0, 1) := by decide +kernel
theorem dX10_sea_5 : decode cX10_sea 5 = .ok (.getfield 53, 3) := by decide +kernel
theorem dX10_sea_8 : decode cX10_sea 8 = .ok (.invokevirtual 75, 3) := by decide +kernel
theorem dX10_sea_11 : decode cX10_sea 11 = .ok (.istore_n 1, 1) := by decide +kernel
theorem dX10_sea_12 : decode cX10_sea 12 = .ok (.aload_n 0, 1) := by decide +kernel
theorem dX10_sea_13 : decode cX10_sea 13 = .ok (.getfield 10, 3) := by decide +kernel
theorem dX10_sea_16 : decode cX10_sea 16 = .ok (.iconst 0, 1) := by decide +kernel
theorem dX10_sea_17 : decode cX10_sea 17 = .ok (.invokevirtual 72, 3) := by decide +kernel
theorem dX10_sea_20 : decode cX10_sea 20 = .ok (.iload_n 1, 1) := by decide +kernel
theorem dX10_sea_21 : decode cX10_sea 21 = .ok (.ifCond .ne 5, 3) := by decide +kernel
theorem dX10_sea_24 : decode cX10_sea 24 = .ok (.iconst (-1), 1) := by decide +kernel
theorem dX10_sea_25 : decode cX10_sea 25 = .ok (.ireturn, 1) := by decide +kernel
theorem dX10_sea_26 : decode cX10_sea 26 = .ok (.aload_n 0, 1) := by decide +kernel
theorem dX10_sea_27 : decode cX10_sea 27 = .ok (.getfield 49, 3) := by decide +kernel
theorem dX10_sea_30 : decode cX10_sea 30 = .ok (.astore_n 2, 1) := by decide +kernel
theorem dX10_sea_31 : decode cX10_sea 31 = .ok (.aload_n 0, 1) := by decide +kernel
theorem dX10_sea_32 : decode cX10_sea 32 = .ok (.aload_n 0, 1) := by decide +kernel
theorem dX10_sea_33 : decode cX10_sea 33 = .ok (.getfield 53, 3) := by decide +kernel
theorem dX10_sea_36 : decode cX10_sea 36 = .ok (.putfield 49, 3) := by decide +kernel
theorem dX10_sea_39 : decode cX10_sea 39 = .ok (.aload_n 0, 1) := by decide +kernel
theorem dX10_sea_40 : decode cX10_sea 40 = .ok (.aload_n 2, 1) := by decide +kernel
theorem dX10_sea_41 : decode cX10_sea 41 = .ok (.putfield 53, 3) := by decide +kernel
theorem dX10_sea_44 : decode cX10_sea 44 = .ok (.iconst 0, 1) := by decide +kernel
theorem dX10_sea_45 : decode cX10_sea 45 = .ok (.istore_n 3, 1) := by decide +kernel
theorem dX10_sea_46 : decode cX10_sea 46 = .ok (.iload_n 3, 1) := by decide +kernel
theorem dX10_sea_47 : decode cX10_sea 47 = .ok (.aload_n 0, 1) := by decide +kernel
theorem dX10_sea_48 : decode cX10_sea 48 = .ok (.getfield 28, 3) := by decide +kernel
theorem dX10_sea_51 : decode cX10_sea 51 = .ok (.invokevirtual 79, 3) := by decide +kernel
theorem dX10_sea_54 : decode cX10_sea 54 = .ok (.if_icmp .ge 27, 3) := by decide +kernel
theorem dX10_sea_57 : decode cX10_sea 57 = .ok (.aload_n 0, 1) := by decide +kernel
theorem dX10_sea_58 : decode cX10_sea 58 = .ok (.getfield 28, 3) := by decide +kernel
theorem dX10_sea_61 : decode cX10_sea 61 = .ok (.iload_n 3, 1) := by decide +kernel
theorem dX10_sea_62 : decode cX10_sea 62 = .ok (.invokevirtual 80, 3) := by decide +kernel
theorem dX10_sea_65 : decode cX10_sea 65 = .ok (.checkcast 84, 3) := by decide +kernel
theorem dX10_sea_68 : decode cX10_sea 68 = .ok (.aload_n 0, 1) := by decide +kernel
theorem dX10_sea_69 : decode cX10_sea 69 = .ok (.getfield 49, 3) := by decide +kernel
theorem dX10_sea_72 : decode cX10_sea 72 = .ok (.invokevirtual 86, 3) := by decide +kernel
theorem dX10_sea_75 : decode cX10_sea 75 = .ok (.iinc 3 1, 3) := by decide +kernel
theorem dX10_sea_78 : decode cX10_sea 78 = .ok (.goto (-32), 3) := by decide +kernel
theorem dX10_sea_81 : decode cX10_sea 81 = .ok (.aload_n 0, 1) := by decide +kernel
theorem dX10_sea_82 : decode cX10_sea 82 = .ok (.getfield 49, 3) := by decide +kernel
theorem dX10_sea_85 : decode cX10_sea 85 = .ok (.invokevirtual 90, 3) := by decide +kernel
theorem dX10_sea_88 : decode cX10_sea 88 = .ok (.ireturn, 1) := by decide +kernel
theorem dX10_fault_0 : decode cX10_fault 0 = .ok (.iload_n 1, 1) := by decide +kernel
theorem dX10_fault_1 : decode cX10_fault 1 = .ok (.lookupswitch 43 #[(0, 27), (1, 35)], 27) := by decide +kernel
theorem dX10_fault_28 : decode cX10_fault 28 = .ok (.aload_n 0, 1) := by decide +kernel
theorem dX10_fault_29 : decode cX10_fault 29 = .ok (.getfield 21, 3) := by decide +kernel
theorem dX10_fault_32 : decode cX10_fault 32 = .ok (.invokevirtual 93, 3) := by decide +kernel
theorem dX10_fault_35 : decode cX10_fault 35 = .ok (.ireturn, 1) := by decide +kernel
theorem dX10_fault_36 : decode cX10_fault 36 = .ok (.aload_n 0, 1) := by decide +kernel
theorem dX10_fault_37 : decode cX10_fault 37 = .ok (.getfield 21, 3) := by decide +kernel
theorem dX10_fault_40 : decode cX10_fault 40 = .ok (.invokevirtual 96, 3) := by decide +kernel
theorem dX10_fault_43 : decode cX10_fault 43 = .ok (.ireturn, 1) := by decide +kernel
theorem dX10_fault_44 : decode cX10_fault 44 = .ok (.iconst (-1), 1) := by decide +kernel
theorem dX10_fault_45 : decode cX10_fault 45 = .ok (.ireturn, 1) := by decide +kernel
theorem dX10_wind_0 : decode cX10_wind 0 = .ok (.iload_n 1, 1) := by decide +kernel
theorem dX10_wind_1 : decode cX10_wind 1 = .ok (.invokestatic 99, 3) := by decide +kernel
theorem dX10_wind_4 : decode cX10_wind 4 = .ok (.ifCond .eq 15, 3) := by decide +kernel
theorem dX10_wind_7 : decode cX10_wind 7 = .ok (.aload_n 0, 1) := by decide +kernel
theorem dX10_wind_8 : decode cX10_wind 8 = .ok (.getfield 49, 3) := by decide +kernel
theorem dX10_wind_11 : decode cX10_wind 11 = .ok (.iload_n 1, 1) := by decide +kernel
theorem dX10_wind_12 : decode cX10_wind 12 = .ok (.iload_n 2, 1) := by decide +kernel
theorem dX10_wind_13 : decode cX10_wind 13 = .ok (.invokevirtual 102, 3) := by decide +kernel
theorem dX10_wind_16 : decode cX10_wind 16 = .ok (.goto 5, 3) := by decide +kernel
theorem dX10_wind_19 : decode cX10_wind 19 = .ok (.bipush (-100), 2) := by decide +kernel
theorem dX10_wind_21 : decode cX10_wind 21 = .ok (.ireturn, 1) := by decide +kernel
theorem dX10_stream_0 : decode cX10_stream 0 = .ok (.iload_n 1, 1) := by decide +kernel
theorem dX10_stream_1 : decode cX10_stream 1 = .ok (.invokestatic 106, 3) := by decide +kernel
theorem dX10_stream_4 : decode cX10_stream 4 = .ok (.ifCond .eq 14, 3) := by decide +kernel
theorem dX10_stream_7 : decode cX10_stream 7 = .ok (.iload_n 2, 1) := by decide +kernel
theorem dX10_stream_8 : decode cX10_stream 8 = .ok (.invokestatic 99, 3) := by decide +kernel
theorem dX10_stream_11 : decode cX10_stream 11 = .ok (.ifCond .eq 7, 3) := by decide +kernel
theorem dX10_stream_14 : decode cX10_stream 14 = .ok (.iconst 1, 1) := by decide +kernel
theorem dX10_stream_15 : decode cX10_stream 15 = .ok (.goto 4, 3) := by decide +kernel
theorem dX10_stream_18 : decode cX10_stream 18 = .ok (.iconst 0, 1) := by decide +kernel
theorem dX10_stream_19 : decode cX10_stream 19 = .ok (.istore 4, 2) := by decide +kernel
theorem dX10_stream_21 : decode cX10_stream 21 = .ok (.iload 4, 2) := by decide +kernel
theorem dX10_stream_23 : decode cX10_stream 23 = .ok (.ifCond .eq 16, 3) := by decide +kernel
theorem dX10_stream_26 : decode cX10_stream 26 = .ok (.aload_n 0, 1) := by decide +kernel
theorem dX10_stream_27 : decode cX10_stream 27 = .ok (.getfield 49, 3) := by decide +kernel
theorem dX10_stream_30 : decode cX10_stream 30 = .ok (.iload_n 1, 1) := by decide +kernel
theorem dX10_stream_31 : decode cX10_stream 31 = .ok (.iload_n 2, 1) := by decide +kernel
theorem dX10_stream_32 : decode cX10_stream 32 = .ok (.iload_n 3, 1) := by decide +kernel
theorem dX10_stream_33 : decode cX10_stream 33 = .ok (.invokevirtual 109, 3) := by decide +kernel
theorem dX10_stream_36 : decode cX10_stream 36 = .ok (.goto 5, 3) := by decide +kernel
theorem dX10_stream_39 : decode cX10_stream 39 = .ok (.bipush (-100), 2) := by decide +kernel
theorem dX10_stream_41 : decode cX10_stream 41 = .ok (.ireturn, 1) := by decide +kernel
theorem dX10_miss_0 : decode cX10_miss 0 = .ok (.iload_n 1, 1) := by decide +kernel
theorem dX10_miss_1 : decode cX10_miss 1 = .ok (.iload_n 2, 1) := by decide +kernel
theorem dX10_miss_2 : decode cX10_miss 2 = .ok (.bipush 20, 2) := by decide +kernel
theorem dX10_miss_4 : decode cX10_miss 4 = .ok (.invokestatic 113, 3) := by decide +kernel
theorem dX10_miss_7 : decode cX10_miss 7 = .ok (.ifCond .eq 15, 3) := by decide +kernel
theorem dX10_miss_10 : decode cX10_miss 10 = .ok (.aload_n 0, 1) := by decide +kernel
theorem dX10_miss_11 : decode cX10_miss 11 = .ok (.getfield 49, 3) := by decide +kernel
theorem dX10_miss_14 : decode cX10_miss 14 = .ok (.iload_n 1, 1) := by decide +kernel
theorem dX10_miss_15 : decode cX10_miss 15 = .ok (.iload_n 2, 1) := by decide +kernel
theorem dX10_miss_16 : decode cX10_miss 16 = .ok (.invokevirtual 116, 3) := by decide +kernel
theorem dX10_miss_19 : decode cX10_miss 19 = .ok (.goto 4, 3) := by decide +kernel
theorem dX10_miss_22 : decode cX10_miss 22 = .ok (.iconst (-1), 1) := by decide +kernel
theorem dX10_miss_23 : decode cX10_miss 23 = .ok (.ireturn, 1) := by decide +kernel
theorem dX10_land_0 : decode cX10_land 0 = .ok (.iload_n 1, 1) := by decide +kernel
theorem dX10_land_1 : decode cX10_land 1 = .ok (.invokestatic 120, 3) := by decide +kernel
theorem dX10_land_4 : decode cX10_land 4 = .ok (.ifCond .ne 5, 3) := by decide +kernel
theorem dX10_land_7 : decode cX10_land 7 = .ok (.iconst (-1), 1) := by decide +kernel
theorem dX10_land_8 : decode cX10_land 8 = .ok (.ireturn, 1) := by decide +kernel
theorem dX10_land_9 : decode cX10_land 9 = .ok (.aload_n 0, 1) := by decide +kernel
theorem dX10_land_10 : decode cX10_land 10 = .ok (.getfield 49, 3) := by decide +kernel
theorem dX10_land_13 : decode cX10_land 13 = .ok (.iload_n 1, 1) := by decide +kernel
theorem dX10_land_14 : decode cX10_land 14 = .ok (.invokevirtual 123, 3) := by decide +kernel
theorem dX10_land_17 : decode cX10_land 17 = .ok (.ifCond .eq 7, 3) := by decide +kernel
theorem dX10_land_20 : decode cX10_land 20 = .ok (.iconst 1, 1) := by decide +kernel
theorem dX10_land_21 : decode cX10_land 21 = .ok (.goto 4, 3) := by decide +kernel
theorem dX10_land_24 : decode cX10_land 24 = .ok (.iconst 0, 1) := by decide +kernel
theorem dX10_land_25 : decode cX10_land 25 = .ok (.ireturn, 1) := by decide +kernel
theorem dX10_tale_0 : decode cX10_tale 0 = .ok (.iload_n 1, 1) := by decide +kernel
theorem dX10_tale_1 : decode cX10_tale 1 = .ok (.invokestatic 126, 3) := by decide +kernel
theorem dX10_tale_4 : decode cX10_tale 4 = .ok (.ifCond .eq 35, 3) := by decide +kernel
theorem dX10_tale_7 : decode cX10_tale 7 = .ok (.iload_n 2, 1) := by decide +kernel
theorem dX10_tale_8 : decode cX10_tale 8 = .ok (.iload_n 3, 1) := by decide +kernel
theorem dX10_tale_9 : decode cX10_tale 9 = .ok (.invokestatic 129, 3) := by decide +kernel
theorem dX10_tale_12 : decode cX10_tale 12 = .ok (.ifCond .eq 27, 3) := by decide +kernel
theorem dX10_tale_15 : decode cX10_tale 15 = .ok (.iload 4, 2) := by decide +kernel
theorem dX10_tale_17 : decode cX10_tale 17 = .ok (.invokestatic 99, 3) := by decide +kernel
theorem dX10_tale_20 : decode cX10_tale 20 = .ok (.ifCond .eq 19, 3) := by decide +kernel
theorem dX10_tale_23 : decode cX10_tale 23 = .ok (.iload 5, 2) := by decide +kernel
theorem dX10_tale_25 : decode cX10_tale 25 = .ok (.iconst 1, 1) := by decide +kernel
theorem dX10_tale_26 : decode cX10_tale 26 = .ok (.sipush 1000, 3) := by decide +kernel
theorem dX10_tale_29 : decode cX10_tale 29 = .ok (.invokestatic 68, 3) := by decide +kernel
theorem dX10_tale_32 : decode cX10_tale 32 = .ok (.ifCond .eq 7, 3) := by decide +kernel
theorem dX10_tale_35 : decode cX10_tale 35 = .ok (.iconst 1, 1) := by decide +kernel
theorem dX10_tale_36 : decode cX10_tale 36 = .ok (.goto 4, 3) := by decide +kernel
theorem dX10_tale_39 : decode cX10_tale 39 = .ok (.iconst 0, 1) := by decide +kernel
theorem dX10_tale_40 : decode cX10_tale 40 = .ok (.istore 6, 2) := by decide +kernel
theorem dX10_tale_42 : decode cX10_tale 42 = .ok (.iload 6, 2) := by decide +kernel
theorem dX10_tale_44 : decode cX10_tale 44 = .ok (.ifCond .eq 15, 3) := by decide +kernel
theorem dX10_tale_47 : decode cX10_tale 47 = .ok (.aload_n 0, 1) := by decide +kernel
theorem dX10_tale_48 : decode cX10_tale 48 = .ok (.getfield 28, 3) := by decide +kernel
theorem dX10_tale_51 : decode cX10_tale 51 = .ok (.invokevirtual 79, 3) := by decide +kernel
theorem dX10_tale_54 : decode cX10_tale 54 = .ok (.bipush 40, 2) := by decide +kernel
theorem dX10_tale_56 : decode cX10_tale 56 = .ok (.if_icmp .lt 5, 3) := by decide +kernel
theorem dX10_tale_59 : decode cX10_tale 59 = .ok (.iconst (-1), 1) := by decide +kernel
theorem dX10_tale_60 : decode cX10_tale 60 = .ok (.ireturn, 1) := by decide +kernel
theorem dX10_tale_61 : decode cX10_tale 61 = .ok (.new 84, 3) := by decide +kernel
theorem dX10_tale_64 : decode cX10_tale 64 = .ok (.dup, 1) := by decide +kernel
theorem dX10_tale_65 : decode cX10_tale 65 = .ok (.iload_n 1, 1) := by decide +kernel
theorem dX10_tale_66 : decode cX10_tale 66 = .ok (.iload_n 2, 1) := by decide +kernel
theorem dX10_tale_67 : decode cX10_tale 67 = .ok (.iload_n 3, 1) := by decide +kernel
theorem dX10_tale_68 : decode cX10_tale 68 = .ok (.iload 4, 2) := by decide +kernel
theorem dX10_tale_70 : decode cX10_tale 70 = .ok (.iload 5, 2) := by decide +kernel
theorem dX10_tale_72 : decode cX10_tale 72 = .ok (.invokespecial 133, 3) := by decide +kernel
theorem dX10_tale_75 : decode cX10_tale 75 = .ok (.astore 7, 2) := by decide +kernel
theorem dX10_tale_77 : decode cX10_tale 77 = .ok (.aload 7, 2) := by decide +kernel
theorem dX10_tale_79 : decode cX10_tale 79 = .ok (.aload_n 0, 1) := by decide +kernel
theorem dX10_tale_80 : decode cX10_tale 80 = .ok (.getfield 49, 3) := by decide +kernel
theorem dX10_tale_83 : decode cX10_tale 83 = .ok (.invokevirtual 86, 3) := by decide +kernel
theorem dX10_tale_86 : decode cX10_tale 86 = .ok (.aload_n 0, 1) := by decide +kernel
theorem dX10_tale_87 : decode cX10_tale 87 = .ok (.getfield 28, 3) := by decide +kernel
theorem dX10_tale_90 : decode cX10_tale 90 = .ok (.aload 7, 2) := by decide +kernel
theorem dX10_tale_92 : decode cX10_tale 92 = .ok (.invokevirtual 136, 3) := by decide +kernel
theorem dX10_tale_95 : decode cX10_tale 95 = .ok (.pop, 1) := by decide +kernel
theorem dX10_tale_96 : decode cX10_tale 96 = .ok (.aload_n 0, 1) := by decide +kernel
theorem dX10_tale_97 : decode cX10_tale 97 = .ok (.getfield 28, 3) := by decide +kernel
theorem dX10_tale_100 : decode cX10_tale 100 = .ok (.invokevirtual 79, 3) := by decide +kernel
theorem dX10_tale_103 : decode cX10_tale 103 = .ok (.iconst 1, 1) := by decide +kernel
theorem dX10_tale_104 : decode cX10_tale 104 = .ok (.isub, 1) := by decide +kernel
theorem dX10_tale_105 : decode cX10_tale 105 = .ok (.ireturn, 1) := by decide +kernel
theorem dX10_place_0 : decode cX10_place 0 = .ok (.aload_n 0, 1) := by decide +kernel
theorem dX10_place_1 : decode cX10_place 1 = .ok (.iload_n 1, 1) := by decide +kernel
theorem dX10_place_2 : decode cX10_place 2 = .ok (.invokevirtual 139, 3) := by decide +kernel
theorem dX10_place_5 : decode cX10_place 5 = .ok (.ifCond .eq 14, 3) := by decide +kernel
theorem dX10_place_8 : decode cX10_place 8 = .ok (.iload_n 2, 1) := by decide +kernel
theorem dX10_place_9 : decode cX10_place 9 = .ok (.invokestatic 142, 3) := by decide +kernel
theorem dX10_place_12 : decode cX10_place 12 = .ok (.ifCond .eq 7, 3) := by decide +kernel
theorem dX10_place_15 : decode cX10_place 15 = .ok (.iconst 1, 1) := by decide +kernel
theorem dX10_place_16 : decode cX10_place 16 = .ok (.goto 4, 3) := by decide +kernel
theorem dX10_place_19 : decode cX10_place 19 = .ok (.iconst 0, 1) := by decide +kernel
theorem dX10_place_20 : decode cX10_place 20 = .ok (.istore_n 3, 1) := by decide +kernel
theorem dX10_place_21 : decode cX10_place 21 = .ok (.iload_n 3, 1) := by decide +kernel
theorem dX10_place_22 : decode cX10_place 22 = .ok (.ifCond .eq 21, 3) := by decide +kernel
theorem dX10_place_25 : decode cX10_place 25 = .ok (.aload_n 0, 1) := by decide +kernel
theorem dX10_place_26 : decode cX10_place 26 = .ok (.getfield 28, 3) := by decide +kernel
theorem dX10_place_29 : decode cX10_place 29 = .ok (.iload_n 1, 1) := by decide +kernel
theorem dX10_place_30 : decode cX10_place 30 = .ok (.invokevirtual 80, 3) := by decide +kernel
theorem dX10_place_33 : decode cX10_place 33 = .ok (.checkcast 84, 3) := by decide +kernel
theorem dX10_place_36 : decode cX10_place 36 = .ok (.iload_n 2, 1) := by decide +kernel
theorem dX10_place_37 : decode cX10_place 37 = .ok (.invokevirtual 145, 3) := by decide +kernel
theorem dX10_place_40 : decode cX10_place 40 = .ok (.goto 4, 3) := by decide +kernel
theorem dX10_place_43 : decode cX10_place 43 = .ok (.iconst (-1), 1) := by decide +kernel
theorem dX10_place_44 : decode cX10_place 44 = .ok (.ireturn, 1) := by decide +kernel
theorem dX10_state_0 : decode cX10_state 0 = .ok (.aload_n 0, 1) := by decide +kernel
theorem dX10_state_1 : decode cX10_state 1 = .ok (.iload_n 1, 1) := by decide +kernel
theorem dX10_state_2 : decode cX10_state 2 = .ok (.invokevirtual 139, 3) := by decide +kernel
theorem dX10_state_5 : decode cX10_state 5 = .ok (.ifCond .eq 14, 3) := by decide +kernel
theorem dX10_state_8 : decode cX10_state 8 = .ok (.iload_n 2, 1) := by decide +kernel
theorem dX10_state_9 : decode cX10_state 9 = .ok (.invokestatic 142, 3) := by decide +kernel
theorem dX10_state_12 : decode cX10_state 12 = .ok (.ifCond .eq 7, 3) := by decide +kernel
theorem dX10_state_15 : decode cX10_state 15 = .ok (.iconst 1, 1) := by decide +kernel
theorem dX10_state_16 : decode cX10_state 16 = .ok (.goto 4, 3) := by decide +kernel
theorem dX10_state_19 : decode cX10_state 19 = .ok (.iconst 0, 1) := by decide +kernel
theorem dX10_state_20 : decode cX10_state 20 = .ok (.istore_n 3, 1) := by decide +kernel
theorem dX10_state_21 : decode cX10_state 21 = .ok (.iload_n 3, 1) := by decide +kernel
theorem dX10_state_22 : decode cX10_state 22 = .ok (.ifCond .eq 21, 3) := by decide +kernel
theorem dX10_state_25 : decode cX10_state 25 = .ok (.aload_n 0, 1) := by decide +kernel
theorem dX10_state_26 : decode cX10_state 26 = .ok (.getfield 28, 3) := by decide +kernel
theorem dX10_state_29 : decode cX10_state 29 = .ok (.iload_n 1, 1) := by decide +kernel
theorem dX10_state_30 : decode cX10_state 30 = .ok (.invokevirtual 80, 3) := by decide +kernel
theorem dX10_state_33 : decode cX10_state 33 = .ok (.checkcast 84, 3) := by decide +kernel
theorem dX10_state_36 : decode cX10_state 36 = .ok (.iload_n 2, 1) := by decide +kernel
theorem dX10_state_37 : decode cX10_state 37 = .ok (.invokevirtual 149, 3) := by decide +kernel
theorem dX10_state_40 : decode cX10_state 40 = .ok (.goto 4, 3) := by decide +kernel
theorem dX10_state_43 : decode cX10_state 43 = .ok (.iconst (-1), 1) := by decide +kernel
theorem dX10_state_44 : decode cX10_state 44 = .ok (.ireturn, 1) := by decide +kernel
theorem dX10_search_0 : decode cX10_search 0 = .ok (.iload_n 1, 1) := by decide +kernel
theorem dX10_search_1 : decode cX10_search 1 = .ok (.invokestatic 142, 3) := by decide +kernel
theorem dX10_search_4 : decode cX10_search 4 = .ok (.ifCond .eq 37, 3) := by decide +kernel
theorem dX10_search_7 : decode cX10_search 7 = .ok (.iload_n 2, 1) := by decide +kernel
theorem dX10_search_8 : decode cX10_search 8 = .ok (.iload_n 3, 1) := by decide +kernel
theorem dX10_search_9 : decode cX10_search 9 = .ok (.invokestatic 152, 3) := by decide +kernel
theorem dX10_search_12 : decode cX10_search 12 = .ok (.ifCond .eq 29, 3) := by decide +kernel
theorem dX10_search_15 : decode cX10_search 15 = .ok (.iload 4, 2) := by decide +kernel
theorem dX10_search_17 : decode cX10_search 17 = .ok (.iload 5, 2) := by decide +kernel
theorem dX10_search_19 : decode cX10_search 19 = .ok (.invokestatic 152, 3) := by decide +kernel
theorem dX10_search_22 : decode cX10_search 22 = .ok (.ifCond .eq 19, 3) := by decide +kernel
theorem dX10_search_25 : decode cX10_search 25 = .ok (.iload 6, 2) := by decide +kernel
theorem dX10_search_27 : decode cX10_search 27 = .ok (.iload 7, 2) := by decide +kernel
theorem dX10_search_29 : decode cX10_search 29 = .ok (.bipush 20, 2) := by decide +kernel
theorem dX10_search_31 : decode cX10_search 31 = .ok (.invokestatic 113, 3) := by decide +kernel
theorem dX10_search_34 : decode cX10_search 34 = .ok (.ifCond .eq 7, 3) := by decide +kernel
theorem dX10_search_37 : decode cX10_search 37 = .ok (.iconst 1, 1) := by decide +kernel
theorem dX10_search_38 : decode cX10_search 38 = .ok (.goto 4, 3) := by decide +kernel
theorem dX10_search_41 : decode cX10_search 41 = .ok (.iconst 0, 1) := by decide +kernel
theorem dX10_search_42 : decode cX10_search 42 = .ok (.istore 8, 2) := by decide +kernel
theorem dX10_search_44 : decode cX10_search 44 = .ok (.iload 8, 2) := by decide +kernel
theorem dX10_search_46 : decode cX10_search 46 = .ok (.ifCond .eq 10, 3) := by decide +kernel
theorem dX10_search_49 : decode cX10_search 49 = .ok (.aload_n 0, 1) := by decide +kernel
theorem dX10_search_50 : decode cX10_search 50 = .ok (.invokevirtual 155, 3) := by decide +kernel
theorem dX10_search_53 : decode cX10_search 53 = .ok (.ifCond .ne 5, 3) := by decide +kernel
theorem dX10_search_56 : decode cX10_search 56 = .ok (.iconst (-1), 1) := by decide +kernel
theorem dX10_search_57 : decode cX10_search 57 = .ok (.ireturn, 1) := by decide +kernel
theorem dX10_search_58 : decode cX10_search 58 = .ok (.aload_n 0, 1) := by decide +kernel
theorem dX10_search_59 : decode cX10_search 59 = .ok (.new 159, 3) := by decide +kernel
theorem dX10_search_62 : decode cX10_search 62 = .ok (.dup, 1) := by decide +kernel
theorem dX10_search_63 : decode cX10_search 63 = .ok (.iload_n 1, 1) := by decide +kernel
theorem dX10_search_64 : decode cX10_search 64 = .ok (.iload_n 2, 1) := by decide +kernel
theorem dX10_search_65 : decode cX10_search 65 = .ok (.iload_n 3, 1) := by decide +kernel
theorem dX10_search_66 : decode cX10_search 66 = .ok (.iload 4, 2) := by decide +kernel
theorem dX10_search_68 : decode cX10_search 68 = .ok (.iload 5, 2) := by decide +kernel
theorem dX10_search_70 : decode cX10_search 70 = .ok (.iload 6, 2) := by decide +kernel
theorem dX10_search_72 : decode cX10_search 72 = .ok (.iload 7, 2) := by decide +kernel
theorem dX10_search_74 : decode cX10_search 74 = .ok (.invokespecial 161, 3) := by decide +kernel
theorem dX10_search_77 : decode cX10_search 77 = .ok (.invokevirtual 164, 3) := by decide +kernel
theorem dX10_search_80 : decode cX10_search 80 = .ok (.ireturn, 1) := by decide +kernel
theorem dX10_clue_0 : decode cX10_clue 0 = .ok (.iload_n 1, 1) := by decide +kernel
theorem dX10_clue_1 : decode cX10_clue 1 = .ok (.invokestatic 142, 3) := by decide +kernel
theorem dX10_clue_4 : decode cX10_clue 4 = .ok (.ifCond .eq 37, 3) := by decide +kernel
theorem dX10_clue_7 : decode cX10_clue 7 = .ok (.iload_n 2, 1) := by decide +kernel
theorem dX10_clue_8 : decode cX10_clue 8 = .ok (.iload_n 3, 1) := by decide +kernel
theorem dX10_clue_9 : decode cX10_clue 9 = .ok (.invokestatic 129, 3) := by decide +kernel
theorem dX10_clue_12 : decode cX10_clue 12 = .ok (.ifCond .eq 29, 3) := by decide +kernel
theorem dX10_clue_15 : decode cX10_clue 15 = .ok (.iload 4, 2) := by decide +kernel
theorem dX10_clue_17 : decode cX10_clue 17 = .ok (.iconst 0, 1) := by decide +kernel
theorem dX10_clue_18 : decode cX10_clue 18 = .ok (.bipush 80, 2) := by decide +kernel
theorem dX10_clue_20 : decode cX10_clue 20 = .ok (.invokestatic 68, 3) := by decide +kernel
theorem dX10_clue_23 : decode cX10_clue 23 = .ok (.ifCond .eq 18, 3) := by decide +kernel
theorem dX10_clue_26 : decode cX10_clue 26 = .ok (.iload 5, 2) := by decide +kernel
theorem dX10_clue_28 : decode cX10_clue 28 = .ok (.iconst 0, 1) := by decide +kernel
theorem dX10_clue_29 : decode cX10_clue 29 = .ok (.bipush 100, 2) := by decide +kernel
theorem dX10_clue_31 : decode cX10_clue 31 = .ok (.invokestatic 68, 3) := by decide +kernel
theorem dX10_clue_34 : decode cX10_clue 34 = .ok (.ifCond .eq 7, 3) := by decide +kernel
theorem dX10_clue_37 : decode cX10_clue 37 = .ok (.iconst 1, 1) := by decide +kernel
theorem dX10_clue_38 : decode cX10_clue 38 = .ok (.goto 4, 3) := by decide +kernel
theorem dX10_clue_41 : decode cX10_clue 41 = .ok (.iconst 0, 1) := by decide +kernel
theorem dX10_clue_42 : decode cX10_clue 42 = .ok (.istore 6, 2) := by decide +kernel
theorem dX10_clue_44 : decode cX10_clue 44 = .ok (.iload 6, 2) := by decide +kernel
theorem dX10_clue_46 : decode cX10_clue 46 = .ok (.ifCond .eq 10, 3) := by decide +kernel
theorem dX10_clue_49 : decode cX10_clue 49 = .ok (.aload_n 0, 1) := by decide +kernel
theorem dX10_clue_50 : decode cX10_clue 50 = .ok (.invokevirtual 155, 3) := by decide +kernel
theorem dX10_clue_53 : decode cX10_clue 53 = .ok (.ifCond .ne 5, 3) := by decide +kernel
theorem dX10_clue_56 : decode cX10_clue 56 = .ok (.iconst (-1), 1) := by decide +kernel
theorem dX10_clue_57 : decode cX10_clue 57 = .ok (.ireturn, 1) := by decide +kernel
theorem dX10_clue_58 : decode cX10_clue 58 = .ok (.aload_n 0, 1) := by decide +kernel
theorem dX10_clue_59 : decode cX10_clue 59 = .ok (.new 168, 3) := by decide +kernel
theorem dX10_clue_62 : decode cX10_clue 62 = .ok (.dup, 1) := by decide +kernel
theorem dX10_clue_63 : decode cX10_clue 63 = .ok (.iload_n 1, 1) := by decide +kernel
theorem dX10_clue_64 : decode cX10_clue 64 = .ok (.iload_n 2, 1) := by decide +kernel
theorem dX10_clue_65 : decode cX10_clue 65 = .ok (.iload_n 3, 1) := by decide +kernel
theorem dX10_clue_66 : decode cX10_clue 66 = .ok (.iload 4, 2) := by decide +kernel
theorem dX10_clue_68 : decode cX10_clue 68 = .ok (.iload 5, 2) := by decide +kernel
theorem dX10_clue_70 : decode cX10_clue 70 = .ok (.invokespecial 170, 3) := by decide +kernel
theorem dX10_clue_73 : decode cX10_clue 73 = .ok (.invokevirtual 164, 3) := by decide +kernel
theorem dX10_clue_76 : decode cX10_clue 76 = .ok (.ireturn, 1) := by decide +kernel
theorem dX10_back_0 : decode cX10_back 0 = .ok (.iload_n 1, 1) := by decide +kernel
theorem dX10_back_1 : decode cX10_back 1 = .ok (.iconst 0, 1) := by decide +kernel
theorem dX10_back_2 : decode cX10_back 2 = .ok (.aload_n 0, 1) := by decide +kernel
theorem dX10_back_3 : decode cX10_back 3 = .ok (.getfield 32, 3) := by decide +kernel
theorem dX10_back_6 : decode cX10_back 6 = .ok (.invokevirtual 79, 3) := by decide +kernel
theorem dX10_back_9 : decode cX10_back 9 = .ok (.iconst 1, 1) := by decide +kernel
theorem dX10_back_10 : decode cX10_back 10 = .ok (.isub, 1) := by decide +kernel
theorem dX10_back_11 : decode cX10_back 11 = .ok (.invokestatic 68, 3) := by decide +kernel
theorem dX10_back_14 : decode cX10_back 14 = .ok (.ifCond .eq 20, 3) := by decide +kernel
theorem dX10_back_17 : decode cX10_back 17 = .ok (.aload_n 0, 1) := by decide +kernel
theorem dX10_back_18 : decode cX10_back 18 = .ok (.getfield 32, 3) := by decide +kernel
theorem dX10_back_21 : decode cX10_back 21 = .ok (.iload_n 1, 1) := by decide +kernel
theorem dX10_back_22 : decode cX10_back 22 = .ok (.invokevirtual 80, 3) := by decide +kernel
theorem dX10_back_25 : decode cX10_back 25 = .ok (.checkcast 171, 3) := by decide +kernel
theorem dX10_back_28 : decode cX10_back 28 = .ok (.invokevirtual 173, 3) := by decide +kernel
theorem dX10_back_31 : decode cX10_back 31 = .ok (.ifCond .ne 5, 3) := by decide +kernel
theorem dX10_back_34 : decode cX10_back 34 = .ok (.iconst 0, 1) := by decide +kernel
theorem dX10_back_35 : decode cX10_back 35 = .ok (.ireturn, 1) := by decide +kernel
theorem dX10_back_36 : decode cX10_back 36 = .ok (.aload_n 0, 1) := by decide +kernel
theorem dX10_back_37 : decode cX10_back 37 = .ok (.getfield 32, 3) := by decide +kernel
theorem dX10_back_40 : decode cX10_back 40 = .ok (.iload_n 1, 1) := by decide +kernel
theorem dX10_back_41 : decode cX10_back 41 = .ok (.invokevirtual 80, 3) := by decide +kernel
theorem dX10_back_44 : decode cX10_back 44 = .ok (.checkcast 171, 3) := by decide +kernel
theorem dX10_back_47 : decode cX10_back 47 = .ok (.invokevirtual 176, 3) := by decide +kernel
theorem dX10_back_50 : decode cX10_back 50 = .ok (.aload_n 0, 1) := by decide +kernel
theorem dX10_back_51 : decode cX10_back 51 = .ok (.dup, 1) := by decide +kernel
theorem dX10_back_52 : decode cX10_back 52 = .ok (.getfield 179, 3) := by decide +kernel
theorem dX10_back_55 : decode cX10_back 55 = .ok (.iconst 1, 1) := by decide +kernel
theorem dX10_back_56 : decode cX10_back 56 = .ok (.isub, 1) := by decide +kernel
theorem dX10_back_57 : decode cX10_back 57 = .ok (.putfield 179, 3) := by decide +kernel
theorem dX10_back_60 : decode cX10_back 60 = .ok (.iconst 1, 1) := by decide +kernel
theorem dX10_back_61 : decode cX10_back 61 = .ok (.ireturn, 1) := by decide +kernel
theorem dX10_odds_0 : decode cX10_odds 0 = .ok (.aload_n 0, 1) := by decide +kernel
theorem dX10_odds_1 : decode cX10_odds 1 = .ok (.iload_n 1, 1) := by decide +kernel
theorem dX10_odds_2 : decode cX10_odds 2 = .ok (.invokevirtual 139, 3) := by decide +kernel
theorem dX10_odds_5 : decode cX10_odds 5 = .ok (.ifCond .eq 21, 3) := by decide +kernel
theorem dX10_odds_8 : decode cX10_odds 8 = .ok (.aload_n 0, 1) := by decide +kernel
theorem dX10_odds_9 : decode cX10_odds 9 = .ok (.aload_n 0, 1) := by decide +kernel
theorem dX10_odds_10 : decode cX10_odds 10 = .ok (.getfield 28, 3) := by decide +kernel
theorem dX10_odds_13 : decode cX10_odds 13 = .ok (.iload_n 1, 1) := by decide +kernel
theorem dX10_odds_14 : decode cX10_odds 14 = .ok (.invokevirtual 80, 3) := by decide +kernel
theorem dX10_odds_17 : decode cX10_odds 17 = .ok (.checkcast 84, 3) := by decide +kernel
theorem dX10_odds_20 : decode cX10_odds 20 = .ok (.invokevirtual 183, 3) := by decide +kernel
theorem dX10_odds_23 : decode cX10_odds 23 = .ok (.goto 6, 3) := by decide +kernel
theorem dX10_odds_26 : decode cX10_odds 26 = .ok (.ldc2_w 187, 3) := by decide +kernel
theorem dX10_odds_29 : decode cX10_odds 29 = .ok (.lreturn, 1) := by decide +kernel
theorem dX10_share_0 : decode cX10_share 0 = .ok (.iload_n 1, 1) := by decide +kernel
theorem dX10_share_1 : decode cX10_share 1 = .ok (.invokestatic 120, 3) := by decide +kernel
theorem dX10_share_4 : decode cX10_share 4 = .ok (.ifCond .eq 10, 3) := by decide +kernel
theorem dX10_share_7 : decode cX10_share 7 = .ok (.iload_n 2, 1) := by decide +kernel
theorem dX10_share_8 : decode cX10_share 8 = .ok (.invokestatic 142, 3) := by decide +kernel
theorem dX10_share_11 : decode cX10_share 11 = .ok (.ifCond .ne 7, 3) := by decide +kernel
theorem dX10_share_14 : decode cX10_share 14 = .ok (.ldc2_w 187, 3) := by decide +kernel
theorem dX10_share_17 : decode cX10_share 17 = .ok (.lreturn, 1) := by decide +kernel
theorem dX10_share_18 : decode cX10_share 18 = .ok (.aload_n 0, 1) := by decide +kernel
theorem dX10_share_19 : decode cX10_share 19 = .ok (.iload_n 2, 1) := by decide +kernel
theorem dX10_share_20 : decode cX10_share 20 = .ok (.iconst 0, 1) := by decide +kernel
theorem dX10_share_21 : decode cX10_share 21 = .ok (.invokevirtual 189, 3) := by decide +kernel
theorem dX10_share_24 : decode cX10_share 24 = .ok (.aload_n 0, 1) := by decide +kernel
theorem dX10_share_25 : decode cX10_share 25 = .ok (.getfield 42, 3) := by decide +kernel
theorem dX10_share_28 : decode cX10_share 28 = .ok (.iload_n 1, 1) := by decide +kernel
theorem dX10_share_29 : decode cX10_share 29 = .ok (.laload, 1) := by decide +kernel
theorem dX10_share_30 : decode cX10_share 30 = .ok (.lstore 4, 2) := by decide +kernel
theorem dX10_share_32 : decode cX10_share 32 = .ok (.aload_n 0, 1) := by decide +kernel
theorem dX10_share_33 : decode cX10_share 33 = .ok (.invokevirtual 193, 3) := by decide +kernel
theorem dX10_share_36 : decode cX10_share 36 = .ok (.lstore 6, 2) := by decide +kernel
theorem dX10_share_38 : decode cX10_share 38 = .ok (.lload 6, 2) := by decide +kernel
theorem dX10_share_40 : decode cX10_share 40 = .ok (.lload 4, 2) := by decide +kernel
theorem dX10_share_42 : decode cX10_share 42 = .ok (.invokestatic 197, 3) := by decide +kernel
theorem dX10_share_45 : decode cX10_share 45 = .ok (.lstore 8, 2) := by decide +kernel
theorem dX10_share_47 : decode cX10_share 47 = .ok (.lload 8, 2) := by decide +kernel
theorem dX10_share_49 : decode cX10_share 49 = .ok (.lconst 0, 1) := by decide +kernel
theorem dX10_share_50 : decode cX10_share 50 = .ok (.lcmp, 1) := by decide +kernel
theorem dX10_share_51 : decode cX10_share 51 = .ok (.ifCond .ne 13, 3) := by decide +kernel
theorem dX10_share_54 : decode cX10_share 54 = .ok (.iload_n 3, 1) := by decide +kernel
theorem dX10_share_55 : decode cX10_share 55 = .ok (.ifCond .eq 7, 3) := by decide +kernel
theorem dX10_share_58 : decode cX10_share 58 = .ok (.lconst 1, 1) := by decide +kernel
theorem dX10_share_59 : decode cX10_share 59 = .ok (.goto 4, 3) := by decide +kernel
theorem dX10_share_62 : decode cX10_share 62 = .ok (.lconst 0, 1) := by decide +kernel
theorem dX10_share_63 : decode cX10_share 63 = .ok (.lreturn, 1) := by decide +kernel
theorem dX10_share_64 : decode cX10_share 64 = .ok (.iload_n 3, 1) := by decide +kernel
theorem dX10_share_65 : decode cX10_share 65 = .ok (.ifCond .eq 11, 3) := by decide +kernel
theorem dX10_share_68 : decode cX10_share 68 = .ok (.lload 6, 2) := by decide +kernel
theorem dX10_share_70 : decode cX10_share 70 = .ok (.lload 8, 2) := by decide +kernel
theorem dX10_share_72 : decode cX10_share 72 = .ok (.ldiv, 1) := by decide +kernel
theorem dX10_share_73 : decode cX10_share 73 = .ok (.goto 8, 3) := by decide +kernel
theorem dX10_share_76 : decode cX10_share 76 = .ok (.lload 4, 2) := by decide +kernel
theorem dX10_share_78 : decode cX10_share 78 = .ok (.lload 8, 2) := by decide +kernel
theorem dX10_share_80 : decode cX10_share 80 = .ok (.ldiv, 1) := by decide +kernel
theorem dX10_share_81 : decode cX10_share 81 = .ok (.lreturn, 1) := by decide +kernel
theorem dX10_likeliest_0 : decode cX10_likeliest 0 = .ok (.iload_n 1, 1) := by decide +kernel
theorem dX10_likeliest_1 : decode cX10_likeliest 1 = .ok (.invokestatic 142, 3) := by decide +kernel
theorem dX10_likeliest_4 : decode cX10_likeliest 4 = .ok (.ifCond .ne 5, 3) := by decide +kernel
theorem dX10_likeliest_7 : decode cX10_likeliest 7 = .ok (.iconst (-1), 1) := by decide +kernel
theorem dX10_likeliest_8 : decode cX10_likeliest 8 = .ok (.ireturn, 1) := by decide +kernel
theorem dX10_likeliest_9 : decode cX10_likeliest 9 = .ok (.aload_n 0, 1) := by decide +kernel
theorem dX10_likeliest_10 : decode cX10_likeliest 10 = .ok (.iload_n 1, 1) := by decide +kernel
theorem dX10_likeliest_11 : decode cX10_likeliest 11 = .ok (.iconst 0, 1) := by decide +kernel
theorem dX10_likeliest_12 : decode cX10_likeliest 12 = .ok (.invokevirtual 189, 3) := by decide +kernel
theorem dX10_likeliest_15 : decode cX10_likeliest 15 = .ok (.iconst (-1), 1) := by decide +kernel
theorem dX10_likeliest_16 : decode cX10_likeliest 16 = .ok (.istore_n 2, 1) := by decide +kernel
theorem dX10_likeliest_17 : decode cX10_likeliest 17 = .ok (.lconst 0, 1) := by decide +kernel
theorem dX10_likeliest_18 : decode cX10_likeliest 18 = .ok (.lstore_n 3, 1) := by decide +kernel
theorem dX10_likeliest_19 : decode cX10_likeliest 19 = .ok (.iconst 0, 1) := by decide +kernel
theorem dX10_likeliest_20 : decode cX10_likeliest 20 = .ok (.istore 5, 2) := by decide +kernel
theorem dX10_likeliest_22 : decode cX10_likeliest 22 = .ok (.iload 5, 2) := by decide +kernel
theorem dX10_likeliest_24 : decode cX10_likeliest 24 = .ok (.bipush 64, 2) := by decide +kernel
theorem dX10_likeliest_26 : decode cX10_likeliest 26 = .ok (.if_icmp .ge 32, 3) := by decide +kernel
theorem dX10_likeliest_29 : decode cX10_likeliest 29 = .ok (.aload_n 0, 1) := by decide +kernel
theorem dX10_likeliest_30 : decode cX10_likeliest 30 = .ok (.getfield 42, 3) := by decide +kernel
theorem dX10_likeliest_33 : decode cX10_likeliest 33 = .ok (.iload 5, 2) := by decide +kernel
theorem dX10_likeliest_35 : decode cX10_likeliest 35 = .ok (.laload, 1) := by decide +kernel
theorem dX10_likeliest_36 : decode cX10_likeliest 36 = .ok (.lload_n 3, 1) := by decide +kernel
theorem dX10_likeliest_37 : decode cX10_likeliest 37 = .ok (.lcmp, 1) := by decide +kernel
theorem dX10_likeliest_38 : decode cX10_likeliest 38 = .ok (.ifCond .le 14, 3) := by decide +kernel
theorem dX10_likeliest_41 : decode cX10_likeliest 41 = .ok (.aload_n 0, 1) := by decide +kernel
theorem dX10_likeliest_42 : decode cX10_likeliest 42 = .ok (.getfield 42, 3) := by decide +kernel
theorem dX10_likeliest_45 : decode cX10_likeliest 45 = .ok (.iload 5, 2) := by decide +kernel
theorem dX10_likeliest_47 : decode cX10_likeliest 47 = .ok (.laload, 1) := by decide +kernel
theorem dX10_likeliest_48 : decode cX10_likeliest 48 = .ok (.lstore_n 3, 1) := by decide +kernel
theorem dX10_likeliest_49 : decode cX10_likeliest 49 = .ok (.iload 5, 2) := by decide +kernel
theorem dX10_likeliest_51 : decode cX10_likeliest 51 = .ok (.istore_n 2, 1) := by decide +kernel
theorem dX10_likeliest_52 : decode cX10_likeliest 52 = .ok (.iinc 5 1, 3) := by decide +kernel
theorem dX10_likeliest_55 : decode cX10_likeliest 55 = .ok (.goto (-33), 3) := by decide +kernel
theorem dX10_likeliest_58 : decode cX10_likeliest 58 = .ok (.iload_n 2, 1) := by decide +kernel
theorem dX10_likeliest_59 : decode cX10_likeliest 59 = .ok (.ireturn, 1) := by decide +kernel
theorem dX10_seen_0 : decode cX10_seen 0 = .ok (.iload_n 1, 1) := by decide +kernel
theorem dX10_seen_1 : decode cX10_seen 1 = .ok (.invokestatic 142, 3) := by decide +kernel
theorem dX10_seen_4 : decode cX10_seen 4 = .ok (.ifCond .eq 13, 3) := by decide +kernel
theorem dX10_seen_7 : decode cX10_seen 7 = .ok (.iload_n 2, 1) := by decide +kernel
theorem dX10_seen_8 : decode cX10_seen 8 = .ok (.iload_n 3, 1) := by decide +kernel
theorem dX10_seen_9 : decode cX10_seen 9 = .ok (.bipush 40, 2) := by decide +kernel
theorem dX10_seen_11 : decode cX10_seen 11 = .ok (.invokestatic 113, 3) := by decide +kernel
theorem dX10_seen_14 : decode cX10_seen 14 = .ok (.ifCond .ne 7, 3) := by decide +kernel
theorem dX10_seen_17 : decode cX10_seen 17 = .ok (.ldc2_w 187, 3) := by decide +kernel
theorem dX10_seen_20 : decode cX10_seen 20 = .ok (.lreturn, 1) := by decide +kernel
theorem dX10_seen_21 : decode cX10_seen 21 = .ok (.aload_n 0, 1) := by decide +kernel
theorem dX10_seen_22 : decode cX10_seen 22 = .ok (.iload_n 1, 1) := by decide +kernel
theorem dX10_seen_23 : decode cX10_seen 23 = .ok (.iconst 1, 1) := by decide +kernel
theorem dX10_seen_24 : decode cX10_seen 24 = .ok (.invokevirtual 189, 3) := by decide +kernel
theorem dX10_seen_27 : decode cX10_seen 27 = .ok (.aload_n 0, 1) := by decide +kernel
theorem dX10_seen_28 : decode cX10_seen 28 = .ok (.getfield 38, 3) := by decide +kernel
theorem dX10_seen_31 : decode cX10_seen 31 = .ok (.aload_n 0, 1) := by decide +kernel
theorem dX10_seen_32 : decode cX10_seen 32 = .ok (.getfield 42, 3) := by decide +kernel
theorem dX10_seen_35 : decode cX10_seen 35 = .ok (.aload_n 0, 1) := by decide +kernel
theorem dX10_seen_36 : decode cX10_seen 36 = .ok (.getfield 49, 3) := by decide +kernel
theorem dX10_seen_39 : decode cX10_seen 39 = .ok (.iload_n 2, 1) := by decide +kernel
theorem dX10_seen_40 : decode cX10_seen 40 = .ok (.iload_n 3, 1) := by decide +kernel
theorem dX10_seen_41 : decode cX10_seen 41 = .ok (.invokevirtual 201, 3) := by decide +kernel
theorem dX10_seen_44 : decode cX10_seen 44 = .ok (.aload_n 0, 1) := by decide +kernel
theorem dX10_seen_45 : decode cX10_seen 45 = .ok (.getfield 38, 3) := by decide +kernel
theorem dX10_seen_48 : decode cX10_seen 48 = .ok (.invokevirtual 205, 3) := by decide +kernel
theorem dX10_seen_51 : decode cX10_seen 51 = .ok (.lreturn, 1) := by decide +kernel
theorem dX10_split_0 : decode cX10_split 0 = .ok (.iload_n 1, 1) := by decide +kernel
theorem dX10_split_1 : decode cX10_split 1 = .ok (.invokestatic 142, 3) := by decide +kernel
theorem dX10_split_4 : decode cX10_split 4 = .ok (.ifCond .eq 21, 3) := by decide +kernel
theorem dX10_split_7 : decode cX10_split 7 = .ok (.iload_n 2, 1) := by decide +kernel
theorem dX10_split_8 : decode cX10_split 8 = .ok (.iload_n 3, 1) := by decide +kernel
theorem dX10_split_9 : decode cX10_split 9 = .ok (.bipush 40, 2) := by decide +kernel
theorem dX10_split_11 : decode cX10_split 11 = .ok (.invokestatic 113, 3) := by decide +kernel
theorem dX10_split_14 : decode cX10_split 14 = .ok (.ifCond .eq 11, 3) := by decide +kernel
theorem dX10_split_17 : decode cX10_split 17 = .ok (.iload 4, 2) := by decide +kernel
theorem dX10_split_19 : decode cX10_split 19 = .ok (.invokestatic 120, 3) := by decide +kernel
theorem dX10_split_22 : decode cX10_split 22 = .ok (.ifCond .ne 5, 3) := by decide +kernel
theorem dX10_split_25 : decode cX10_split 25 = .ok (.iconst (-1), 1) := by decide +kernel
theorem dX10_split_26 : decode cX10_split 26 = .ok (.ireturn, 1) := by decide +kernel
theorem dX10_split_27 : decode cX10_split 27 = .ok (.aload_n 0, 1) := by decide +kernel
theorem dX10_split_28 : decode cX10_split 28 = .ok (.iload_n 1, 1) := by decide +kernel
theorem dX10_split_29 : decode cX10_split 29 = .ok (.iconst 1, 1) := by decide +kernel
theorem dX10_split_30 : decode cX10_split 30 = .ok (.invokevirtual 189, 3) := by decide +kernel
theorem dX10_split_33 : decode cX10_split 33 = .ok (.aload_n 0, 1) := by decide +kernel
theorem dX10_split_34 : decode cX10_split 34 = .ok (.getfield 38, 3) := by decide +kernel
theorem dX10_split_37 : decode cX10_split 37 = .ok (.aload_n 0, 1) := by decide +kernel
theorem dX10_split_38 : decode cX10_split 38 = .ok (.getfield 42, 3) := by decide +kernel
theorem dX10_split_41 : decode cX10_split 41 = .ok (.aload_n 0, 1) := by decide +kernel
theorem dX10_split_42 : decode cX10_split 42 = .ok (.getfield 49, 3) := by decide +kernel
theorem dX10_split_45 : decode cX10_split 45 = .ok (.iload_n 2, 1) := by decide +kernel
theorem dX10_split_46 : decode cX10_split 46 = .ok (.iload_n 3, 1) := by decide +kernel
theorem dX10_split_47 : decode cX10_split 47 = .ok (.invokevirtual 201, 3) := by decide +kernel
theorem dX10_split_50 : decode cX10_split 50 = .ok (.aload_n 0, 1) := by decide +kernel
theorem dX10_split_51 : decode cX10_split 51 = .ok (.getfield 38, 3) := by decide +kernel
theorem dX10_split_54 : decode cX10_split 54 = .ok (.iload 4, 2) := by decide +kernel
theorem dX10_split_56 : decode cX10_split 56 = .ok (.invokevirtual 208, 3) := by decide +kernel
theorem dX10_split_59 : decode cX10_split 59 = .ok (.ireturn, 1) := by decide +kernel
theorem dX10_left_0 : decode cX10_left 0 = .ok (.lconst 0, 1) := by decide +kernel
theorem dX10_left_1 : decode cX10_left 1 = .ok (.lstore_n 1, 1) := by decide +kernel
theorem dX10_left_2 : decode cX10_left 2 = .ok (.iconst 0, 1) := by decide +kernel
theorem dX10_left_3 : decode cX10_left 3 = .ok (.istore_n 3, 1) := by decide +kernel
theorem dX10_left_4 : decode cX10_left 4 = .ok (.iload_n 3, 1) := by decide +kernel
theorem dX10_left_5 : decode cX10_left 5 = .ok (.aload_n 0, 1) := by decide +kernel
theorem dX10_left_6 : decode cX10_left 6 = .ok (.getfield 28, 3) := by decide +kernel
theorem dX10_left_9 : decode cX10_left 9 = .ok (.invokevirtual 79, 3) := by decide +kernel
theorem dX10_left_12 : decode cX10_left 12 = .ok (.if_icmp .ge 27, 3) := by decide +kernel
theorem dX10_left_15 : decode cX10_left 15 = .ok (.lload_n 1, 1) := by decide +kernel
theorem dX10_left_16 : decode cX10_left 16 = .ok (.aload_n 0, 1) := by decide +kernel
theorem dX10_left_17 : decode cX10_left 17 = .ok (.getfield 28, 3) := by decide +kernel
theorem dX10_left_20 : decode cX10_left 20 = .ok (.iload_n 3, 1) := by decide +kernel
theorem dX10_left_21 : decode cX10_left 21 = .ok (.invokevirtual 80, 3) := by decide +kernel
theorem dX10_left_24 : decode cX10_left 24 = .ok (.checkcast 84, 3) := by decide +kernel
theorem dX10_left_27 : decode cX10_left 27 = .ok (.invokevirtual 211, 3) := by decide +kernel
theorem dX10_left_30 : decode cX10_left 30 = .ok (.i2l, 1) := by decide +kernel
theorem dX10_left_31 : decode cX10_left 31 = .ok (.ladd, 1) := by decide +kernel
theorem dX10_left_32 : decode cX10_left 32 = .ok (.lstore_n 1, 1) := by decide +kernel
theorem dX10_left_33 : decode cX10_left 33 = .ok (.iinc 3 1, 3) := by decide +kernel
theorem dX10_left_36 : decode cX10_left 36 = .ok (.goto (-32), 3) := by decide +kernel
theorem dX10_left_39 : decode cX10_left 39 = .ok (.lload_n 1, 1) := by decide +kernel
theorem dX10_left_40 : decode cX10_left 40 = .ok (.lconst 0, 1) := by decide +kernel
theorem dX10_left_41 : decode cX10_left 41 = .ok (.lcmp, 1) := by decide +kernel
theorem dX10_left_42 : decode cX10_left 42 = .ok (.ifCond .gt 7, 3) := by decide +kernel
theorem dX10_left_45 : decode cX10_left 45 = .ok (.sipush 10000, 3) := by decide +kernel
theorem dX10_left_48 : decode cX10_left 48 = .ok (.ireturn, 1) := by decide +kernel
theorem dX10_left_49 : decode cX10_left 49 = .ok (.ldc2_w 214, 3) := by decide +kernel
theorem dX10_left_52 : decode cX10_left 52 = .ok (.lstore_n 3, 1) := by decide +kernel
theorem dX10_left_53 : decode cX10_left 53 = .ok (.iconst 0, 1) := by decide +kernel
theorem dX10_left_54 : decode cX10_left 54 = .ok (.istore 5, 2) := by decide +kernel
theorem dX10_left_56 : decode cX10_left 56 = .ok (.iload 5, 2) := by decide +kernel
theorem dX10_left_58 : decode cX10_left 58 = .ok (.aload_n 0, 1) := by decide +kernel
theorem dX10_left_59 : decode cX10_left 59 = .ok (.getfield 179, 3) := by decide +kernel
theorem dX10_left_62 : decode cX10_left 62 = .ok (.if_icmp .ge 30, 3) := by decide +kernel
theorem dX10_left_65 : decode cX10_left 65 = .ok (.lload_n 3, 1) := by decide +kernel
theorem dX10_left_66 : decode cX10_left 66 = .ok (.lconst 1, 1) := by decide +kernel
theorem dX10_left_67 : decode cX10_left 67 = .ok (.lcmp, 1) := by decide +kernel
theorem dX10_left_68 : decode cX10_left 68 = .ok (.ifCond .le 12, 3) := by decide +kernel
theorem dX10_left_71 : decode cX10_left 71 = .ok (.lload_n 3, 1) := by decide +kernel
theorem dX10_left_72 : decode cX10_left 72 = .ok (.ldc2_w 216, 3) := by decide +kernel
theorem dX10_left_75 : decode cX10_left 75 = .ok (.ldiv, 1) := by decide +kernel
theorem dX10_left_76 : decode cX10_left 76 = .ok (.lstore_n 3, 1) := by decide +kernel
theorem dX10_left_77 : decode cX10_left 77 = .ok (.goto 9, 3) := by decide +kernel
theorem dX10_left_80 : decode cX10_left 80 = .ok (.lload_n 1, 1) := by decide +kernel
theorem dX10_left_81 : decode cX10_left 81 = .ok (.ldc2_w 216, 3) := by decide +kernel
theorem dX10_left_84 : decode cX10_left 84 = .ok (.lmul, 1) := by decide +kernel
theorem dX10_left_85 : decode cX10_left 85 = .ok (.lstore_n 1, 1) := by decide +kernel
theorem dX10_left_86 : decode cX10_left 86 = .ok (.iinc 5 1, 3) := by decide +kernel
theorem dX10_left_89 : decode cX10_left 89 = .ok (.goto (-33), 3) := by decide +kernel
theorem dX10_left_92 : decode cX10_left 92 = .ok (.aload_n 0, 1) := by decide +kernel
theorem dX10_left_93 : decode cX10_left 93 = .ok (.invokevirtual 193, 3) := by decide +kernel
theorem dX10_left_96 : decode cX10_left 96 = .ok (.lload_n 3, 1) := by decide +kernel
theorem dX10_left_97 : decode cX10_left 97 = .ok (.lmul, 1) := by decide +kernel
theorem dX10_left_98 : decode cX10_left 98 = .ok (.lload_n 1, 1) := by decide +kernel
theorem dX10_left_99 : decode cX10_left 99 = .ok (.ldiv, 1) := by decide +kernel
theorem dX10_left_100 : decode cX10_left 100 = .ok (.l2i, 1) := by decide +kernel
theorem dX10_left_101 : decode cX10_left 101 = .ok (.ireturn, 1) := by decide +kernel
theorem dX10_tracks_0 : decode cX10_tracks 0 = .ok (.iload_n 1, 1) := by decide +kernel
theorem dX10_tracks_1 : decode cX10_tracks 1 = .ok (.iconst 1, 1) := by decide +kernel
theorem dX10_tracks_2 : decode cX10_tracks 2 = .ok (.bipush 8, 2) := by decide +kernel
theorem dX10_tracks_4 : decode cX10_tracks 4 = .ok (.invokestatic 68, 3) := by decide +kernel
theorem dX10_tracks_7 : decode cX10_tracks 7 = .ok (.ifCond .eq 38, 3) := by decide +kernel
theorem dX10_tracks_10 : decode cX10_tracks 10 = .ok (.iload_n 2, 1) := by decide +kernel
theorem dX10_tracks_11 : decode cX10_tracks 11 = .ok (.iconst 1, 1) := by decide +kernel
theorem dX10_tracks_12 : decode cX10_tracks 12 = .ok (.bipush 8, 2) := by decide +kernel
theorem dX10_tracks_14 : decode cX10_tracks 14 = .ok (.invokestatic 68, 3) := by decide +kernel
theorem dX10_tracks_17 : decode cX10_tracks 17 = .ok (.ifCond .eq 28, 3) := by decide +kernel
theorem dX10_tracks_20 : decode cX10_tracks 20 = .ok (.iload_n 3, 1) := by decide +kernel
theorem dX10_tracks_21 : decode cX10_tracks 21 = .ok (.iconst 1, 1) := by decide +kernel
theorem dX10_tracks_22 : decode cX10_tracks 22 = .ok (.bipush 80, 2) := by decide +kernel
theorem dX10_tracks_24 : decode cX10_tracks 24 = .ok (.invokestatic 68, 3) := by decide +kernel
theorem dX10_tracks_27 : decode cX10_tracks 27 = .ok (.ifCond .eq 18, 3) := by decide +kernel
theorem dX10_tracks_30 : decode cX10_tracks 30 = .ok (.iload 4, 2) := by decide +kernel
theorem dX10_tracks_32 : decode cX10_tracks 32 = .ok (.iconst 1, 1) := by decide +kernel
theorem dX10_tracks_33 : decode cX10_tracks 33 = .ok (.bipush 100, 2) := by decide +kernel
theorem dX10_tracks_35 : decode cX10_tracks 35 = .ok (.invokestatic 68, 3) := by decide +kernel
theorem dX10_tracks_38 : decode cX10_tracks 38 = .ok (.ifCond .eq 7, 3) := by decide +kernel
theorem dX10_tracks_41 : decode cX10_tracks 41 = .ok (.iconst 1, 1) := by decide +kernel
theorem dX10_tracks_42 : decode cX10_tracks 42 = .ok (.goto 4, 3) := by decide +kernel
theorem dX10_tracks_45 : decode cX10_tracks 45 = .ok (.iconst 0, 1) := by decide +kernel
theorem dX10_tracks_46 : decode cX10_tracks 46 = .ok (.istore 5, 2) := by decide +kernel
theorem dX10_tracks_48 : decode cX10_tracks 48 = .ok (.iload 5, 2) := by decide +kernel
theorem dX10_tracks_50 : decode cX10_tracks 50 = .ok (.ifCond .ne 5, 3) := by decide +kernel
theorem dX10_tracks_53 : decode cX10_tracks 53 = .ok (.iconst (-1), 1) := by decide +kernel
theorem dX10_tracks_54 : decode cX10_tracks 54 = .ok (.ireturn, 1) := by decide +kernel
theorem dX10_tracks_55 : decode cX10_tracks 55 = .ok (.iload_n 2, 1) := by decide +kernel
theorem dX10_tracks_56 : decode cX10_tracks 56 = .ok (.bipush 10, 2) := by decide +kernel
theorem dX10_tracks_58 : decode cX10_tracks 58 = .ok (.imul, 1) := by decide +kernel
theorem dX10_tracks_59 : decode cX10_tracks 59 = .ok (.iload_n 3, 1) := by decide +kernel
theorem dX10_tracks_60 : decode cX10_tracks 60 = .ok (.iadd, 1) := by decide +kernel
theorem dX10_tracks_61 : decode cX10_tracks 61 = .ok (.iconst 1, 1) := by decide +kernel
theorem dX10_tracks_62 : decode cX10_tracks 62 = .ok (.isub, 1) := by decide +kernel
theorem dX10_tracks_63 : decode cX10_tracks 63 = .ok (.iload_n 3, 1) := by decide +kernel
theorem dX10_tracks_64 : decode cX10_tracks 64 = .ok (.idiv, 1) := by decide +kernel
theorem dX10_tracks_65 : decode cX10_tracks 65 = .ok (.istore 6, 2) := by decide +kernel
theorem dX10_tracks_67 : decode cX10_tracks 67 = .ok (.iload 6, 2) := by decide +kernel
theorem dX10_tracks_69 : decode cX10_tracks 69 = .ok (.iload_n 1, 1) := by decide +kernel
theorem dX10_tracks_70 : decode cX10_tracks 70 = .ok (.imul, 1) := by decide +kernel
theorem dX10_tracks_71 : decode cX10_tracks 71 = .ok (.bipush 10, 2) := by decide +kernel
theorem dX10_tracks_73 : decode cX10_tracks 73 = .ok (.imul, 1) := by decide +kernel
theorem dX10_tracks_74 : decode cX10_tracks 74 = .ok (.iload 6, 2) := by decide +kernel
theorem dX10_tracks_76 : decode cX10_tracks 76 = .ok (.iconst 1, 1) := by decide +kernel
theorem dX10_tracks_77 : decode cX10_tracks 77 = .ok (.isub, 1) := by decide +kernel
theorem dX10_tracks_78 : decode cX10_tracks 78 = .ok (.iload_n 3, 1) := by decide +kernel
theorem dX10_tracks_79 : decode cX10_tracks 79 = .ok (.imul, 1) := by decide +kernel
theorem dX10_tracks_80 : decode cX10_tracks 80 = .ok (.iadd, 1) := by decide +kernel
theorem dX10_tracks_81 : decode cX10_tracks 81 = .ok (.istore 7, 2) := by decide +kernel
theorem dX10_tracks_83 : decode cX10_tracks 83 = .ok (.iload 7, 2) := by decide +kernel
theorem dX10_tracks_85 : decode cX10_tracks 85 = .ok (.bipush 60, 2) := by decide +kernel
theorem dX10_tracks_87 : decode cX10_tracks 87 = .ok (.imul, 1) := by decide +kernel
theorem dX10_tracks_88 : decode cX10_tracks 88 = .ok (.iload 4, 2) := by decide +kernel
theorem dX10_tracks_90 : decode cX10_tracks 90 = .ok (.iadd, 1) := by decide +kernel
theorem dX10_tracks_91 : decode cX10_tracks 91 = .ok (.iconst 1, 1) := by decide +kernel
theorem dX10_tracks_92 : decode cX10_tracks 92 = .ok (.isub, 1) := by decide +kernel
theorem dX10_tracks_93 : decode cX10_tracks 93 = .ok (.iload 4, 2) := by decide +kernel
theorem dX10_tracks_95 : decode cX10_tracks 95 = .ok (.idiv, 1) := by decide +kernel
theorem dX10_tracks_96 : decode cX10_tracks 96 = .ok (.ireturn, 1) := by decide +kernel
theorem dX10_about_0 : decode cX10_about 0 = .ok (.iload_n 1, 1) := by decide +kernel
theorem dX10_about_1 : decode cX10_about 1 = .ok (.tableswitch 72 0 4 #[35, 43, 51, 59, 64], 35) := by decide +kernel
theorem dX10_about_36 : decode cX10_about 36 = .ok (.aload_n 0, 1) := by decide +kernel
theorem dX10_about_37 : decode cX10_about 37 = .ok (.getfield 49, 3) := by decide +kernel
theorem dX10_about_40 : decode cX10_about 40 = .ok (.invokevirtual 90, 3) := by decide +kernel
theorem dX10_about_43 : decode cX10_about 43 = .ok (.ireturn, 1) := by decide +kernel
theorem dX10_about_44 : decode cX10_about 44 = .ok (.aload_n 0, 1) := by decide +kernel
theorem dX10_about_45 : decode cX10_about 45 = .ok (.getfield 28, 3) := by decide +kernel
theorem dX10_about_48 : decode cX10_about 48 = .ok (.invokevirtual 79, 3) := by decide +kernel
theorem dX10_about_51 : decode cX10_about 51 = .ok (.ireturn, 1) := by decide +kernel
theorem dX10_about_52 : decode cX10_about 52 = .ok (.aload_n 0, 1) := by decide +kernel
theorem dX10_about_53 : decode cX10_about 53 = .ok (.getfield 32, 3) := by decide +kernel
theorem dX10_about_56 : decode cX10_about 56 = .ok (.invokevirtual 79, 3) := by decide +kernel
theorem dX10_about_59 : decode cX10_about 59 = .ok (.ireturn, 1) := by decide +kernel
theorem dX10_about_60 : decode cX10_about 60 = .ok (.aload_n 0, 1) := by decide +kernel
theorem dX10_about_61 : decode cX10_about 61 = .ok (.getfield 179, 3) := by decide +kernel
theorem dX10_about_64 : decode cX10_about 64 = .ok (.ireturn, 1) := by decide +kernel
theorem dX10_about_65 : decode cX10_about 65 = .ok (.aload_n 0, 1) := by decide +kernel
theorem dX10_about_66 : decode cX10_about 66 = .ok (.getfield 10, 3) := by decide +kernel
theorem dX10_about_69 : decode cX10_about 69 = .ok (.invokevirtual 64, 3) := by decide +kernel
theorem dX10_about_72 : decode cX10_about 72 = .ok (.ireturn, 1) := by decide +kernel
theorem dX10_about_73 : decode cX10_about 73 = .ok (.iconst (-1), 1) := by decide +kernel
theorem dX10_about_74 : decode cX10_about 74 = .ok (.ireturn, 1) := by decide +kernel
theorem dX10_isTale_0 : decode cX10_isTale 0 = .ok (.iload_n 1, 1) := by decide +kernel
theorem dX10_isTale_1 : decode cX10_isTale 1 = .ok (.iconst 0, 1) := by decide +kernel
theorem dX10_isTale_2 : decode cX10_isTale 2 = .ok (.aload_n 0, 1) := by decide +kernel
theorem dX10_isTale_3 : decode cX10_isTale 3 = .ok (.getfield 28, 3) := by decide +kernel
theorem dX10_isTale_6 : decode cX10_isTale 6 = .ok (.invokevirtual 79, 3) := by decide +kernel
theorem dX10_isTale_9 : decode cX10_isTale 9 = .ok (.iconst 1, 1) := by decide +kernel
theorem dX10_isTale_10 : decode cX10_isTale 10 = .ok (.isub, 1) := by decide +kernel
theorem dX10_isTale_11 : decode cX10_isTale 11 = .ok (.invokestatic 68, 3) := by decide +kernel
theorem dX10_isTale_14 : decode cX10_isTale 14 = .ok (.ireturn, 1) := by decide +kernel
theorem dX10_hasRoomForProof_0 : decode cX10_hasRoomForProof 0 = .ok (.aload_n 0, 1) := by decide +kernel
theorem dX10_hasRoomForProof_1 : decode cX10_hasRoomForProof 1 = .ok (.getfield 179, 3) := by decide +kernel
theorem dX10_hasRoomForProof_4 : decode cX10_hasRoomForProof 4 = .ok (.bipush 6, 2) := by decide +kernel
theorem dX10_hasRoomForProof_6 : decode cX10_hasRoomForProof 6 = .ok (.if_icmp .ge 19, 3) := by decide +kernel
theorem dX10_hasRoomForProof_9 : decode cX10_hasRoomForProof 9 = .ok (.aload_n 0, 1) := by decide +kernel
theorem dX10_hasRoomForProof_10 : decode cX10_hasRoomForProof 10 = .ok (.getfield 32, 3) := by decide +kernel
theorem dX10_hasRoomForProof_13 : decode cX10_hasRoomForProof 13 = .ok (.invokevirtual 79, 3) := by decide +kernel
theorem dX10_hasRoomForProof_16 : decode cX10_hasRoomForProof 16 = .ok (.bipush 60, 2) := by decide +kernel
theorem dX10_hasRoomForProof_18 : decode cX10_hasRoomForProof 18 = .ok (.if_icmp .ge 7, 3) := by decide +kernel
theorem dX10_hasRoomForProof_21 : decode cX10_hasRoomForProof 21 = .ok (.iconst 1, 1) := by decide +kernel
theorem dX10_hasRoomForProof_22 : decode cX10_hasRoomForProof 22 = .ok (.goto 4, 3) := by decide +kernel
theorem dX10_hasRoomForProof_25 : decode cX10_hasRoomForProof 25 = .ok (.iconst 0, 1) := by decide +kernel
theorem dX10_hasRoomForProof_26 : decode cX10_hasRoomForProof 26 = .ok (.ireturn, 1) := by decide +kernel
theorem dX10_addProof_0 : decode cX10_addProof 0 = .ok (.aload_n 0, 1) := by decide +kernel
theorem dX10_addProof_1 : decode cX10_addProof 1 = .ok (.getfield 32, 3) := by decide +kernel
theorem dX10_addProof_4 : decode cX10_addProof 4 = .ok (.aload_n 1, 1) := by decide +kernel
theorem dX10_addProof_5 : decode cX10_addProof 5 = .ok (.invokevirtual 136, 3) := by decide +kernel
theorem dX10_addProof_8 : decode cX10_addProof 8 = .ok (.pop, 1) := by decide +kernel
theorem dX10_addProof_9 : decode cX10_addProof 9 = .ok (.aload_n 0, 1) := by decide +kernel
theorem dX10_addProof_10 : decode cX10_addProof 10 = .ok (.dup, 1) := by decide +kernel
theorem dX10_addProof_11 : decode cX10_addProof 11 = .ok (.getfield 179, 3) := by decide +kernel
theorem dX10_addProof_14 : decode cX10_addProof 14 = .ok (.iconst 1, 1) := by decide +kernel
theorem dX10_addProof_15 : decode cX10_addProof 15 = .ok (.iadd, 1) := by decide +kernel
theorem dX10_addProof_16 : decode cX10_addProof 16 = .ok (.putfield 179, 3) := by decide +kernel
theorem dX10_addProof_19 : decode cX10_addProof 19 = .ok (.aload_n 0, 1) := by decide +kernel
theorem dX10_addProof_20 : decode cX10_addProof 20 = .ok (.getfield 32, 3) := by decide +kernel
theorem dX10_addProof_23 : decode cX10_addProof 23 = .ok (.invokevirtual 79, 3) := by decide +kernel
theorem dX10_addProof_26 : decode cX10_addProof 26 = .ok (.iconst 1, 1) := by decide +kernel
theorem dX10_addProof_27 : decode cX10_addProof 27 = .ok (.isub, 1) := by decide +kernel
theorem dX10_addProof_28 : decode cX10_addProof 28 = .ok (.ireturn, 1) := by decide +kernel
theorem dX10_oddsOf_0 : decode cX10_oddsOf 0 = .ok (.aload_n 1, 1) := by decide +kernel
theorem dX10_oddsOf_1 : decode cX10_oddsOf 1 = .ok (.invokevirtual 211, 3) := by decide +kernel
theorem dX10_oddsOf_4 : decode cX10_oddsOf 4 = .ok (.i2l, 1) := by decide +kernel
theorem dX10_oddsOf_5 : decode cX10_oddsOf 5 = .ok (.lstore_n 2, 1) := by decide +kernel
theorem dX10_oddsOf_6 : decode cX10_oddsOf 6 = .ok (.iconst 0, 1) := by decide +kernel
theorem dX10_oddsOf_7 : decode cX10_oddsOf 7 = .ok (.istore 4, 2) := by decide +kernel
theorem dX10_oddsOf_9 : decode cX10_oddsOf 9 = .ok (.iload 4, 2) := by decide +kernel
theorem dX10_oddsOf_11 : decode cX10_oddsOf 11 = .ok (.aload_n 0, 1) := by decide +kernel
theorem dX10_oddsOf_12 : decode cX10_oddsOf 12 = .ok (.getfield 32, 3) := by decide +kernel
theorem dX10_oddsOf_15 : decode cX10_oddsOf 15 = .ok (.invokevirtual 79, 3) := by decide +kernel
theorem dX10_oddsOf_18 : decode cX10_oddsOf 18 = .ok (.if_icmp .ge 45, 3) := by decide +kernel
theorem dX10_oddsOf_21 : decode cX10_oddsOf 21 = .ok (.aload_n 0, 1) := by decide +kernel
theorem dX10_oddsOf_22 : decode cX10_oddsOf 22 = .ok (.getfield 32, 3) := by decide +kernel
theorem dX10_oddsOf_25 : decode cX10_oddsOf 25 = .ok (.iload 4, 2) := by decide +kernel
theorem dX10_oddsOf_27 : decode cX10_oddsOf 27 = .ok (.invokevirtual 80, 3) := by decide +kernel
theorem dX10_oddsOf_30 : decode cX10_oddsOf 30 = .ok (.checkcast 171, 3) := by decide +kernel
theorem dX10_oddsOf_33 : decode cX10_oddsOf 33 = .ok (.astore 5, 2) := by decide +kernel
theorem dX10_oddsOf_35 : decode cX10_oddsOf 35 = .ok (.aload 5, 2) := by decide +kernel
theorem dX10_oddsOf_37 : decode cX10_oddsOf 37 = .ok (.invokevirtual 173, 3) := by decide +kernel
theorem dX10_oddsOf_40 : decode cX10_oddsOf 40 = .ok (.ifCond .eq 17, 3) := by decide +kernel
theorem dX10_oddsOf_43 : decode cX10_oddsOf 43 = .ok (.lload_n 2, 1) := by decide +kernel
theorem dX10_oddsOf_44 : decode cX10_oddsOf 44 = .ok (.aload 5, 2) := by decide +kernel
theorem dX10_oddsOf_46 : decode cX10_oddsOf 46 = .ok (.aload_n 1, 1) := by decide +kernel
theorem dX10_oddsOf_47 : decode cX10_oddsOf 47 = .ok (.aload_n 0, 1) := by decide +kernel
theorem dX10_oddsOf_48 : decode cX10_oddsOf 48 = .ok (.getfield 49, 3) := by decide +kernel
theorem dX10_oddsOf_51 : decode cX10_oddsOf 51 = .ok (.invokevirtual 218, 3) := by decide +kernel
theorem dX10_oddsOf_54 : decode cX10_oddsOf 54 = .ok (.i2l, 1) := by decide +kernel
theorem dX10_oddsOf_55 : decode cX10_oddsOf 55 = .ok (.lmul, 1) := by decide +kernel
theorem dX10_oddsOf_56 : decode cX10_oddsOf 56 = .ok (.lstore_n 2, 1) := by decide +kernel
theorem dX10_oddsOf_57 : decode cX10_oddsOf 57 = .ok (.iinc 4 1, 3) := by decide +kernel
theorem dX10_oddsOf_60 : decode cX10_oddsOf 60 = .ok (.goto (-51), 3) := by decide +kernel
theorem dX10_oddsOf_63 : decode cX10_oddsOf 63 = .ok (.lload_n 2, 1) := by decide +kernel
theorem dX10_oddsOf_64 : decode cX10_oddsOf 64 = .ok (.lreturn, 1) := by decide +kernel
theorem dX10_allOdds_0 : decode cX10_allOdds 0 = .ok (.lconst 0, 1) := by decide +kernel
theorem dX10_allOdds_1 : decode cX10_allOdds 1 = .ok (.lstore_n 1, 1) := by decide +kernel
theorem dX10_allOdds_2 : decode cX10_allOdds 2 = .ok (.iconst 0, 1) := by decide +kernel
theorem dX10_allOdds_3 : decode cX10_allOdds 3 = .ok (.istore_n 3, 1) := by decide +kernel
theorem dX10_allOdds_4 : decode cX10_allOdds 4 = .ok (.iload_n 3, 1) := by decide +kernel
theorem dX10_allOdds_5 : decode cX10_allOdds 5 = .ok (.aload_n 0, 1) := by decide +kernel
theorem dX10_allOdds_6 : decode cX10_allOdds 6 = .ok (.getfield 28, 3) := by decide +kernel
theorem dX10_allOdds_9 : decode cX10_allOdds 9 = .ok (.invokevirtual 79, 3) := by decide +kernel
theorem dX10_allOdds_12 : decode cX10_allOdds 12 = .ok (.if_icmp .ge 27, 3) := by decide +kernel
theorem dX10_allOdds_15 : decode cX10_allOdds 15 = .ok (.lload_n 1, 1) := by decide +kernel
theorem dX10_allOdds_16 : decode cX10_allOdds 16 = .ok (.aload_n 0, 1) := by decide +kernel
theorem dX10_allOdds_17 : decode cX10_allOdds 17 = .ok (.aload_n 0, 1) := by decide +kernel
theorem dX10_allOdds_18 : decode cX10_allOdds 18 = .ok (.getfield 28, 3) := by decide +kernel
theorem dX10_allOdds_21 : decode cX10_allOdds 21 = .ok (.iload_n 3, 1) := by decide +kernel
theorem dX10_allOdds_22 : decode cX10_allOdds 22 = .ok (.invokevirtual 80, 3) := by decide +kernel
theorem dX10_allOdds_25 : decode cX10_allOdds 25 = .ok (.checkcast 84, 3) := by decide +kernel
theorem dX10_allOdds_28 : decode cX10_allOdds 28 = .ok (.invokevirtual 183, 3) := by decide +kernel
theorem dX10_allOdds_31 : decode cX10_allOdds 31 = .ok (.ladd, 1) := by decide +kernel
theorem dX10_allOdds_32 : decode cX10_allOdds 32 = .ok (.lstore_n 1, 1) := by decide +kernel
theorem dX10_allOdds_33 : decode cX10_allOdds 33 = .ok (.iinc 3 1, 3) := by decide +kernel
theorem dX10_allOdds_36 : decode cX10_allOdds 36 = .ok (.goto (-32), 3) := by decide +kernel
theorem dX10_allOdds_39 : decode cX10_allOdds 39 = .ok (.lload_n 1, 1) := by decide +kernel
theorem dX10_allOdds_40 : decode cX10_allOdds 40 = .ok (.lreturn, 1) := by decide +kernel
theorem dX10_sumByCell_0 : decode cX10_sumByCell 0 = .ok (.iconst 0, 1) := by decide +kernel
theorem dX10_sumByCell_1 : decode cX10_sumByCell 1 = .ok (.istore_n 3, 1) := by decide +kernel
theorem dX10_sumByCell_2 : decode cX10_sumByCell 2 = .ok (.iload_n 3, 1) := by decide +kernel
theorem dX10_sumByCell_3 : decode cX10_sumByCell 3 = .ok (.bipush 64, 2) := by decide +kernel
theorem dX10_sumByCell_5 : decode cX10_sumByCell 5 = .ok (.if_icmp .ge 16, 3) := by decide +kernel
theorem dX10_sumByCell_8 : decode cX10_sumByCell 8 = .ok (.aload_n 0, 1) := by decide +kernel
theorem dX10_sumByCell_9 : decode cX10_sumByCell 9 = .ok (.getfield 42, 3) := by decide +kernel
theorem dX10_sumByCell_12 : decode cX10_sumByCell 12 = .ok (.iload_n 3, 1) := by decide +kernel
theorem dX10_sumByCell_13 : decode cX10_sumByCell 13 = .ok (.lconst 0, 1) := by decide +kernel
theorem dX10_sumByCell_14 : decode cX10_sumByCell 14 = .ok (.lastore, 1) := by decide +kernel
theorem dX10_sumByCell_15 : decode cX10_sumByCell 15 = .ok (.iinc 3 1, 3) := by decide +kernel
theorem dX10_sumByCell_18 : decode cX10_sumByCell 18 = .ok (.goto (-16), 3) := by decide +kernel
theorem dX10_sumByCell_21 : decode cX10_sumByCell 21 = .ok (.iconst 0, 1) := by decide +kernel
theorem dX10_sumByCell_22 : decode cX10_sumByCell 22 = .ok (.istore_n 3, 1) := by decide +kernel
theorem dX10_sumByCell_23 : decode cX10_sumByCell 23 = .ok (.iload_n 3, 1) := by decide +kernel
theorem dX10_sumByCell_24 : decode cX10_sumByCell 24 = .ok (.aload_n 0, 1) := by decide +kernel
theorem dX10_sumByCell_25 : decode cX10_sumByCell 25 = .ok (.getfield 28, 3) := by decide +kernel
theorem dX10_sumByCell_28 : decode cX10_sumByCell 28 = .ok (.invokevirtual 79, 3) := by decide +kernel
theorem dX10_sumByCell_31 : decode cX10_sumByCell 31 = .ok (.if_icmp .ge 79, 3) := by decide +kernel
theorem dX10_sumByCell_34 : decode cX10_sumByCell 34 = .ok (.aload_n 0, 1) := by decide +kernel
theorem dX10_sumByCell_35 : decode cX10_sumByCell 35 = .ok (.getfield 28, 3) := by decide +kernel
theorem dX10_sumByCell_38 : decode cX10_sumByCell 38 = .ok (.iload_n 3, 1) := by decide +kernel
theorem dX10_sumByCell_39 : decode cX10_sumByCell 39 = .ok (.invokevirtual 80, 3) := by decide +kernel
theorem dX10_sumByCell_42 : decode cX10_sumByCell 42 = .ok (.checkcast 84, 3) := by decide +kernel
theorem dX10_sumByCell_45 : decode cX10_sumByCell 45 = .ok (.astore 4, 2) := by decide +kernel
theorem dX10_sumByCell_47 : decode cX10_sumByCell 47 = .ok (.aload 4, 2) := by decide +kernel
theorem dX10_sumByCell_49 : decode cX10_sumByCell 49 = .ok (.iload_n 1, 1) := by decide +kernel
theorem dX10_sumByCell_50 : decode cX10_sumByCell 50 = .ok (.invokevirtual 222, 3) := by decide +kernel
theorem dX10_sumByCell_53 : decode cX10_sumByCell 53 = .ok (.istore 5, 2) := by decide +kernel
theorem dX10_sumByCell_55 : decode cX10_sumByCell 55 = .ok (.iload_n 2, 1) := by decide +kernel
theorem dX10_sumByCell_56 : decode cX10_sumByCell 56 = .ok (.ifCond .eq 12, 3) := by decide +kernel
theorem dX10_sumByCell_59 : decode cX10_sumByCell 59 = .ok (.aload 4, 2) := by decide +kernel
theorem dX10_sumByCell_61 : decode cX10_sumByCell 61 = .ok (.iload_n 1, 1) := by decide +kernel
theorem dX10_sumByCell_62 : decode cX10_sumByCell 62 = .ok (.invokevirtual 149, 3) := by decide +kernel
theorem dX10_sumByCell_65 : decode cX10_sumByCell 65 = .ok (.ifCond .ne 7, 3) := by decide +kernel
theorem dX10_sumByCell_68 : decode cX10_sumByCell 68 = .ok (.iconst 1, 1) := by decide +kernel
theorem dX10_sumByCell_69 : decode cX10_sumByCell 69 = .ok (.goto 4, 3) := by decide +kernel
theorem dX10_sumByCell_72 : decode cX10_sumByCell 72 = .ok (.iconst 0, 1) := by decide +kernel
theorem dX10_sumByCell_73 : decode cX10_sumByCell 73 = .ok (.istore 6, 2) := by decide +kernel
theorem dX10_sumByCell_75 : decode cX10_sumByCell 75 = .ok (.iload 6, 2) := by decide +kernel
theorem dX10_sumByCell_77 : decode cX10_sumByCell 77 = .ok (.ifCond .eq 27, 3) := by decide +kernel
theorem dX10_sumByCell_80 : decode cX10_sumByCell 80 = .ok (.iload 5, 2) := by decide +kernel
theorem dX10_sumByCell_82 : decode cX10_sumByCell 82 = .ok (.invokestatic 120, 3) := by decide +kernel
theorem dX10_sumByCell_85 : decode cX10_sumByCell 85 = .ok (.ifCond .eq 19, 3) := by decide +kernel
theorem dX10_sumByCell_88 : decode cX10_sumByCell 88 = .ok (.aload_n 0, 1) := by decide +kernel
theorem dX10_sumByCell_89 : decode cX10_sumByCell 89 = .ok (.getfield 42, 3) := by decide +kernel
theorem dX10_sumByCell_92 : decode cX10_sumByCell 92 = .ok (.iload 5, 2) := by decide +kernel
theorem dX10_sumByCell_94 : decode cX10_sumByCell 94 = .ok (.dup2, 1) := by decide +kernel
theorem dX10_sumByCell_95 : decode cX10_sumByCell 95 = .ok (.laload, 1) := by decide +kernel
theorem dX10_sumByCell_96 : decode cX10_sumByCell 96 = .ok (.aload_n 0, 1) := by decide +kernel
theorem dX10_sumByCell_97 : decode cX10_sumByCell 97 = .ok (.aload 4, 2) := by decide +kernel
theorem dX10_sumByCell_99 : decode cX10_sumByCell 99 = .ok (.invokevirtual 183, 3) := by decide +kernel
theorem dX10_sumByCell_102 : decode cX10_sumByCell 102 = .ok (.ladd, 1) := by decide +kernel
theorem dX10_sumByCell_103 : decode cX10_sumByCell 103 = .ok (.lastore, 1) := by decide +kernel
theorem dX10_sumByCell_104 : decode cX10_sumByCell 104 = .ok (.iinc 3 1, 3) := by decide +kernel
theorem dX10_sumByCell_107 : decode cX10_sumByCell 107 = .ok (.goto (-84), 3) := by decide +kernel
theorem dX10_sumByCell_110 : decode cX10_sumByCell 110 = .ok (.return_, 1) := by decide +kernel
theorem dX10_within_0 : decode cX10_within 0 = .ok (.iload_n 0, 1) := by decide +kernel
theorem dX10_within_1 : decode cX10_within 1 = .ok (.iload_n 1, 1) := by decide +kernel
theorem dX10_within_2 : decode cX10_within 2 = .ok (.if_icmp .lt 12, 3) := by decide +kernel
theorem dX10_within_5 : decode cX10_within 5 = .ok (.iload_n 0, 1) := by decide +kernel
theorem dX10_within_6 : decode cX10_within 6 = .ok (.iload_n 2, 1) := by decide +kernel
theorem dX10_within_7 : decode cX10_within 7 = .ok (.if_icmp .gt 7, 3) := by decide +kernel
theorem dX10_within_10 : decode cX10_within 10 = .ok (.iconst 1, 1) := by decide +kernel
theorem dX10_within_11 : decode cX10_within 11 = .ok (.goto 4, 3) := by decide +kernel
theorem dX10_within_14 : decode cX10_within 14 = .ok (.iconst 0, 1) := by decide +kernel
theorem dX10_within_15 : decode cX10_within 15 = .ok (.ireturn, 1) := by decide +kernel
theorem dX10_isHour_0 : decode cX10_isHour 0 = .ok (.iload_n 0, 1) := by decide +kernel
theorem dX10_isHour_1 : decode cX10_isHour 1 = .ok (.ifCond .lt 13, 3) := by decide +kernel
theorem dX10_isHour_4 : decode cX10_isHour 4 = .ok (.iload_n 0, 1) := by decide +kernel
theorem dX10_isHour_5 : decode cX10_isHour 5 = .ok (.bipush 72, 2) := by decide +kernel
theorem dX10_isHour_7 : decode cX10_isHour 7 = .ok (.if_icmp .ge 7, 3) := by decide +kernel
theorem dX10_isHour_10 : decode cX10_isHour 10 = .ok (.iconst 1, 1) := by decide +kernel
theorem dX10_isHour_11 : decode cX10_isHour 11 = .ok (.goto 4, 3) := by decide +kernel
theorem dX10_isHour_14 : decode cX10_isHour 14 = .ok (.iconst 0, 1) := by decide +kernel
theorem dX10_isHour_15 : decode cX10_isHour 15 = .ok (.ireturn, 1) := by decide +kernel
theorem dX10_isMoment_0 : decode cX10_isMoment 0 = .ok (.iload_n 0, 1) := by decide +kernel
theorem dX10_isMoment_1 : decode cX10_isMoment 1 = .ok (.ifCond .lt 13, 3) := by decide +kernel
theorem dX10_isMoment_4 : decode cX10_isMoment 4 = .ok (.iload_n 0, 1) := by decide +kernel
theorem dX10_isMoment_5 : decode cX10_isMoment 5 = .ok (.bipush 72, 2) := by decide +kernel
theorem dX10_isMoment_7 : decode cX10_isMoment 7 = .ok (.if_icmp .gt 7, 3) := by decide +kernel
theorem dX10_isMoment_10 : decode cX10_isMoment 10 = .ok (.iconst 1, 1) := by decide +kernel
theorem dX10_isMoment_11 : decode cX10_isMoment 11 = .ok (.goto 4, 3) := by decide +kernel
theorem dX10_isMoment_14 : decode cX10_isMoment 14 = .ok (.iconst 0, 1) := by decide +kernel
theorem dX10_isMoment_15 : decode cX10_isMoment 15 = .ok (.ireturn, 1) := by decide +kernel
theorem dX10_isPoint_0 : decode cX10_isPoint 0 = .ok (.iload_n 0, 1) := by decide +kernel
theorem dX10_isPoint_1 : decode cX10_isPoint 1 = .ok (.ifCond .lt 23, 3) := by decide +kernel
theorem dX10_isPoint_4 : decode cX10_isPoint 4 = .ok (.iload_n 0, 1) := by decide +kernel
theorem dX10_isPoint_5 : decode cX10_isPoint 5 = .ok (.bipush 80, 2) := by decide +kernel
theorem dX10_isPoint_7 : decode cX10_isPoint 7 = .ok (.if_icmp .ge 17, 3) := by decide +kernel
theorem dX10_isPoint_10 : decode cX10_isPoint 10 = .ok (.iload_n 1, 1) := by decide +kernel
theorem dX10_isPoint_11 : decode cX10_isPoint 11 = .ok (.ifCond .lt 13, 3) := by decide +kernel
theorem dX10_isPoint_14 : decode cX10_isPoint 14 = .ok (.iload_n 1, 1) := by decide +kernel
theorem dX10_isPoint_15 : decode cX10_isPoint 15 = .ok (.bipush 80, 2) := by decide +kernel
theorem dX10_isPoint_17 : decode cX10_isPoint 17 = .ok (.if_icmp .ge 7, 3) := by decide +kernel
theorem dX10_isPoint_20 : decode cX10_isPoint 20 = .ok (.iconst 1, 1) := by decide +kernel
theorem dX10_isPoint_21 : decode cX10_isPoint 21 = .ok (.goto 4, 3) := by decide +kernel
theorem dX10_isPoint_24 : decode cX10_isPoint 24 = .ok (.iconst 0, 1) := by decide +kernel
theorem dX10_isPoint_25 : decode cX10_isPoint 25 = .ok (.ireturn, 1) := by decide +kernel
theorem dX10_isCell_0 : decode cX10_isCell 0 = .ok (.iload_n 0, 1) := by decide +kernel
theorem dX10_isCell_1 : decode cX10_isCell 1 = .ok (.ifCond .lt 13, 3) := by decide +kernel
theorem dX10_isCell_4 : decode cX10_isCell 4 = .ok (.iload_n 0, 1) := by decide +kernel
theorem dX10_isCell_5 : decode cX10_isCell 5 = .ok (.bipush 64, 2) := by decide +kernel
theorem dX10_isCell_7 : decode cX10_isCell 7 = .ok (.if_icmp .ge 7, 3) := by decide +kernel
theorem dX10_isCell_10 : decode cX10_isCell 10 = .ok (.iconst 1, 1) := by decide +kernel
theorem dX10_isCell_11 : decode cX10_isCell 11 = .ok (.goto 4, 3) := by decide +kernel
theorem dX10_isCell_14 : decode cX10_isCell 14 = .ok (.iconst 0, 1) := by decide +kernel
theorem dX10_isCell_15 : decode cX10_isCell 15 = .ok (.ireturn, 1) := by decide +kernel
theorem dX10_isKind_0 : decode cX10_isKind 0 = .ok (.iload_n 0, 1) := by decide +kernel
theorem dX10_isKind_1 : decode cX10_isKind 1 = .ok (.ifCond .lt 12, 3) := by decide +kernel
theorem dX10_isKind_4 : decode cX10_isKind 4 = .ok (.iload_n 0, 1) := by decide +kernel
theorem dX10_isKind_5 : decode cX10_isKind 5 = .ok (.iconst 4, 1) := by decide +kernel
theorem dX10_isKind_6 : decode cX10_isKind 6 = .ok (.if_icmp .ge 7, 3) := by decide +kernel
theorem dX10_isKind_9 : decode cX10_isKind 9 = .ok (.iconst 1, 1) := by decide +kernel
theorem dX10_isKind_10 : decode cX10_isKind 10 = .ok (.goto 4, 3) := by decide +kernel
theorem dX10_isKind_13 : decode cX10_isKind 13 = .ok (.iconst 0, 1) := by decide +kernel
theorem dX10_isKind_14 : decode cX10_isKind 14 = .ok (.ireturn, 1) := by decide +kernel
theorem dX10_isQuarter_0 : decode cX10_isQuarter 0 = .ok (.iload_n 0, 1) := by decide +kernel
theorem dX10_isQuarter_1 : decode cX10_isQuarter 1 = .ok (.ifCond .lt 12, 3) := by decide +kernel
theorem dX10_isQuarter_4 : decode cX10_isQuarter 4 = .ok (.iload_n 0, 1) := by decide +kernel
theorem dX10_isQuarter_5 : decode cX10_isQuarter 5 = .ok (.iconst 4, 1) := by decide +kernel
theorem dX10_isQuarter_6 : decode cX10_isQuarter 6 = .ok (.if_icmp .ge 7, 3) := by decide +kernel
theorem dX10_isQuarter_9 : decode cX10_isQuarter 9 = .ok (.iconst 1, 1) := by decide +kernel
theorem dX10_isQuarter_10 : decode cX10_isQuarter 10 = .ok (.goto 4, 3) := by decide +kernel
theorem dX10_isQuarter_13 : decode cX10_isQuarter 13 = .ok (.iconst 0, 1) := by decide +kernel
theorem dX10_isQuarter_14 : decode cX10_isQuarter 14 = .ok (.ireturn, 1) := by decide +kernel
theorem dX10_isSpan_0 : decode cX10_isSpan 0 = .ok (.iload_n 0, 1) := by decide +kernel
theorem dX10_isSpan_1 : decode cX10_isSpan 1 = .ok (.ifCond .lt 18, 3) := by decide +kernel
theorem dX10_isSpan_4 : decode cX10_isSpan 4 = .ok (.iload_n 0, 1) := by decide +kernel
theorem dX10_isSpan_5 : decode cX10_isSpan 5 = .ok (.iload_n 1, 1) := by decide +kernel
theorem dX10_isSpan_6 : decode cX10_isSpan 6 = .ok (.if_icmp .gt 13, 3) := by decide +kernel
theorem dX10_isSpan_9 : decode cX10_isSpan 9 = .ok (.iload_n 1, 1) := by decide +kernel
theorem dX10_isSpan_10 : decode cX10_isSpan 10 = .ok (.bipush 8, 2) := by decide +kernel
theorem dX10_isSpan_12 : decode cX10_isSpan 12 = .ok (.if_icmp .ge 7, 3) := by decide +kernel
theorem dX10_isSpan_15 : decode cX10_isSpan 15 = .ok (.iconst 1, 1) := by decide +kernel
theorem dX10_isSpan_16 : decode cX10_isSpan 16 = .ok (.goto 4, 3) := by decide +kernel
theorem dX10_isSpan_19 : decode cX10_isSpan 19 = .ok (.iconst 0, 1) := by decide +kernel
theorem dX10_isSpan_20 : decode cX10_isSpan 20 = .ok (.ireturn, 1) := by decide +kernel
theorem dX10_isMeans_0 : decode cX10_isMeans 0 = .ok (.iload_n 0, 1) := by decide +kernel
theorem dX10_isMeans_1 : decode cX10_isMeans 1 = .ok (.ifCond .lt 21, 3) := by decide +kernel
theorem dX10_isMeans_4 : decode cX10_isMeans 4 = .ok (.iload_n 0, 1) := by decide +kernel
theorem dX10_isMeans_5 : decode cX10_isMeans 5 = .ok (.iconst 2, 1) := by decide +kernel
theorem dX10_isMeans_6 : decode cX10_isMeans 6 = .ok (.if_icmp .ge 16, 3) := by decide +kernel
theorem dX10_isMeans_9 : decode cX10_isMeans 9 = .ok (.iload_n 1, 1) := by decide +kernel
theorem dX10_isMeans_10 : decode cX10_isMeans 10 = .ok (.ifCond .lt 12, 3) := by decide +kernel
theorem dX10_isMeans_13 : decode cX10_isMeans 13 = .ok (.iload_n 1, 1) := by decide +kernel
theorem dX10_isMeans_14 : decode cX10_isMeans 14 = .ok (.iload_n 2, 1) := by decide +kernel
theorem dX10_isMeans_15 : decode cX10_isMeans 15 = .ok (.if_icmp .gt 7, 3) := by decide +kernel
theorem dX10_isMeans_18 : decode cX10_isMeans 18 = .ok (.iconst 1, 1) := by decide +kernel
theorem dX10_isMeans_19 : decode cX10_isMeans 19 = .ok (.goto 4, 3) := by decide +kernel
theorem dX10_isMeans_22 : decode cX10_isMeans 22 = .ok (.iconst 0, 1) := by decide +kernel
theorem dX10_isMeans_23 : decode cX10_isMeans 23 = .ok (.ireturn, 1) := by decide +kernel
theorem dX10_cellOf_0 : decode cX10_cellOf 0 = .ok (.iload_n 1, 1) := by decide +kernel
theorem dX10_cellOf_1 : decode cX10_cellOf 1 = .ok (.bipush 10, 2) := by decide +kernel
theorem dX10_cellOf_3 : decode cX10_cellOf 3 = .ok (.idiv, 1) := by decide +kernel
theorem dX10_cellOf_4 : decode cX10_cellOf 4 = .ok (.bipush 8, 2) := by decide +kernel
theorem dX10_cellOf_6 : decode cX10_cellOf 6 = .ok (.imul, 1) := by decide +kernel
theorem dX10_cellOf_7 : decode cX10_cellOf 7 = .ok (.iload_n 0, 1) := by decide +kernel
theorem dX10_cellOf_8 : decode cX10_cellOf 8 = .ok (.bipush 10, 2) := by decide +kernel
theorem dX10_cellOf_10 : decode cX10_cellOf 10 = .ok (.idiv, 1) := by decide +kernel
theorem dX10_cellOf_11 : decode cX10_cellOf 11 = .ok (.iadd, 1) := by decide +kernel
theorem dX10_cellOf_12 : decode cX10_cellOf 12 = .ok (.ireturn, 1) := by decide +kernel
theorem dX10_quarterOf_0 : decode cX10_quarterOf 0 = .ok (.iload_n 1, 1) := by decide +kernel
theorem dX10_quarterOf_1 : decode cX10_quarterOf 1 = .ok (.bipush 40, 2) := by decide +kernel
theorem dX10_quarterOf_3 : decode cX10_quarterOf 3 = .ok (.if_icmp .lt 7, 3) := by decide +kernel
theorem dX10_quarterOf_6 : decode cX10_quarterOf 6 = .ok (.iconst 2, 1) := by decide +kernel
theorem dX10_quarterOf_7 : decode cX10_quarterOf 7 = .ok (.goto 4, 3) := by decide +kernel
theorem dX10_quarterOf_10 : decode cX10_quarterOf 10 = .ok (.iconst 0, 1) := by decide +kernel
theorem dX10_quarterOf_11 : decode cX10_quarterOf 11 = .ok (.iload_n 0, 1) := by decide +kernel
theorem dX10_quarterOf_12 : decode cX10_quarterOf 12 = .ok (.bipush 40, 2) := by decide +kernel
theorem dX10_quarterOf_14 : decode cX10_quarterOf 14 = .ok (.if_icmp .lt 7, 3) := by decide +kernel
theorem dX10_quarterOf_17 : decode cX10_quarterOf 17 = .ok (.iconst 1, 1) := by decide +kernel
theorem dX10_quarterOf_18 : decode cX10_quarterOf 18 = .ok (.goto 4, 3) := by decide +kernel
theorem dX10_quarterOf_21 : decode cX10_quarterOf 21 = .ok (.iconst 0, 1) := by decide +kernel
theorem dX10_quarterOf_22 : decode cX10_quarterOf 22 = .ok (.iadd, 1) := by decide +kernel
theorem dX10_quarterOf_23 : decode cX10_quarterOf 23 = .ok (.ireturn, 1) := by decide +kernel
theorem dX10_greatestDivisor_0 : decode cX10_greatestDivisor 0 = .ok (.iconst 0, 1) := by decide +kernel
theorem dX10_greatestDivisor_1 : decode cX10_greatestDivisor 1 = .ok (.istore 4, 2) := by decide +kernel
theorem dX10_greatestDivisor_3 : decode cX10_greatestDivisor 3 = .ok (.lload_n 2, 1) := by decide +kernel
theorem dX10_greatestDivisor_4 : decode cX10_greatestDivisor 4 = .ok (.lconst 0, 1) := by decide +kernel
theorem dX10_greatestDivisor_5 : decode cX10_greatestDivisor 5 = .ok (.lcmp, 1) := by decide +kernel
theorem dX10_greatestDivisor_6 : decode cX10_greatestDivisor 6 = .ok (.ifCond .eq 26, 3) := by decide +kernel
theorem dX10_greatestDivisor_9 : decode cX10_greatestDivisor 9 = .ok (.iload 4, 2) := by decide +kernel
theorem dX10_greatestDivisor_11 : decode cX10_greatestDivisor 11 = .ok (.bipush 100, 2) := by decide +kernel
theorem dX10_greatestDivisor_13 : decode cX10_greatestDivisor 13 = .ok (.if_icmp .ge 19, 3) := by decide +kernel
theorem dX10_greatestDivisor_16 : decode cX10_greatestDivisor 16 = .ok (.lload_n 0, 1) := by decide +kernel
theorem dX10_greatestDivisor_17 : decode cX10_greatestDivisor 17 = .ok (.lload_n 2, 1) := by decide +kernel
theorem dX10_greatestDivisor_18 : decode cX10_greatestDivisor 18 = .ok (.lrem, 1) := by decide +kernel
theorem dX10_greatestDivisor_19 : decode cX10_greatestDivisor 19 = .ok (.lstore 5, 2) := by decide +kernel
theorem dX10_greatestDivisor_21 : decode cX10_greatestDivisor 21 = .ok (.lload_n 2, 1) := by decide +kernel
theorem dX10_greatestDivisor_22 : decode cX10_greatestDivisor 22 = .ok (.lstore_n 0, 1) := by decide +kernel
theorem dX10_greatestDivisor_23 : decode cX10_greatestDivisor 23 = .ok (.lload 5, 2) := by decide +kernel
theorem dX10_greatestDivisor_25 : decode cX10_greatestDivisor 25 = .ok (.lstore_n 2, 1) := by decide +kernel
theorem dX10_greatestDivisor_26 : decode cX10_greatestDivisor 26 = .ok (.iinc 4 1, 3) := by decide +kernel
theorem dX10_greatestDivisor_29 : decode cX10_greatestDivisor 29 = .ok (.goto (-26), 3) := by decide +kernel
theorem dX10_greatestDivisor_32 : decode cX10_greatestDivisor 32 = .ok (.lload_n 0, 1) := by decide +kernel
theorem dX10_greatestDivisor_33 : decode cX10_greatestDivisor 33 = .ok (.lreturn, 1) := by decide +kernel
