theorem dX0_init_0 : decode cX0_init 0 = .ok (.aload_n 0, 1) := by decide +kernel
theorem dX0_init_1 : decode cX0_init 1 = .ok (.invokespecial 3, 3) := by decide +kernel
theorem dX0_init_4 : decode cX0_init 4 = .ok (.aload_n 0, 1) := by decide +kernel
theorem dX0_init_5 : decode cX0_init 5 = .ok (.sipush 600, 3) := by decide +kernel
theorem dX0_init_8 : decode cX0_init 8 = .ok (.newarray .int, 2) := by decide +kernel
theorem dX0_init_10 : decode cX0_init 10 = .ok (.putfield 9, 3) := by decide +kernel
theorem dX0_init_13 : decode cX0_init 13 = .ok (.aload_n 0, 1) := by decide +kernel
theorem dX0_init_14 : decode cX0_init 14 = .ok (.sipush 600, 3) := by decide +kernel
theorem dX0_init_17 : decode cX0_init 17 = .ok (.newarray .int, 2) := by decide +kernel
theorem dX0_init_19 : decode cX0_init 19 = .ok (.putfield 15, 3) := by decide +kernel
theorem dX0_init_22 : decode cX0_init 22 = .ok (.aload_n 0, 1) := by decide +kernel
theorem dX0_init_23 : decode cX0_init 23 = .ok (.sipush 600, 3) := by decide +kernel
theorem dX0_init_26 : decode cX0_init 26 = .ok (.newarray .int, 2) := by decide +kernel
theorem dX0_init_28 : decode cX0_init 28 = .ok (.putfield 18, 3) := by decide +kernel
theorem dX0_init_31 : decode cX0_init 31 = .ok (.aload_n 0, 1) := by decide +kernel
theorem dX0_init_32 : decode cX0_init 32 = .ok (.sipush 600, 3) := by decide +kernel
theorem dX0_init_35 : decode cX0_init 35 = .ok (.newarray .int, 2) := by decide +kernel
theorem dX0_init_37 : decode cX0_init 37 = .ok (.putfield 21, 3) := by decide +kernel
theorem dX0_init_40 : decode cX0_init 40 = .ok (.return_, 1) := by decide +kernel
theorem dX0_write_0 : decode cX0_write 0 = .ok (.aload_n 0, 1) := by decide +kernel
theorem dX0_write_1 : decode cX0_write 1 = .ok (.getfield 24, 3) := by decide +kernel
theorem dX0_write_4 : decode cX0_write 4 = .ok (.sipush 600, 3) := by decide +kernel
theorem dX0_write_7 : decode cX0_write 7 = .ok (.if_icmp .ge 54, 3) := by decide +kernel
theorem dX0_write_10 : decode cX0_write 10 = .ok (.aload_n 0, 1) := by decide +kernel
theorem dX0_write_11 : decode cX0_write 11 = .ok (.getfield 9, 3) := by decide +kernel
theorem dX0_write_14 : decode cX0_write 14 = .ok (.aload_n 0, 1) := by decide +kernel
theorem dX0_write_15 : decode cX0_write 15 = .ok (.getfield 24, 3) := by decide +kernel
theorem dX0_write_18 : decode cX0_write 18 = .ok (.iload_n 1, 1) := by decide +kernel
theorem dX0_write_19 : decode cX0_write 19 = .ok (.iastore, 1) := by decide +kernel
theorem dX0_write_20 : decode cX0_write 20 = .ok (.aload_n 0, 1) := by decide +kernel
theorem dX0_write_21 : decode cX0_write 21 = .ok (.getfield 15, 3) := by decide +kernel
theorem dX0_write_24 : decode cX0_write 24 = .ok (.aload_n 0, 1) := by decide +kernel
theorem dX0_write_25 : decode cX0_write 25 = .ok (.getfield 24, 3) := by decide +kernel
theorem dX0_write_28 : decode cX0_write 28 = .ok (.iload_n 2, 1) := by decide +kernel
theorem dX0_write_29 : decode cX0_write 29 = .ok (.iastore, 1) := by decide +kernel
theorem dX0_write_30 : decode cX0_write 30 = .ok (.aload_n 0, 1) := by decide +kernel
theorem dX0_write_31 : decode cX0_write 31 = .ok (.getfield 18, 3) := by decide +kernel
theorem dX0_write_34 : decode cX0_write 34 = .ok (.aload_n 0, 1) := by decide +kernel
theorem dX0_write_35 : decode cX0_write 35 = .ok (.getfield 24, 3) := by decide +kernel
theorem dX0_write_38 : decode cX0_write 38 = .ok (.iload_n 3, 1) := by decide +kernel
theorem dX0_write_39 : decode cX0_write 39 = .ok (.iastore, 1) := by decide +kernel
theorem dX0_write_40 : decode cX0_write 40 = .ok (.aload_n 0, 1) := by decide +kernel
theorem dX0_write_41 : decode cX0_write 41 = .ok (.getfield 21, 3) := by decide +kernel
theorem dX0_write_44 : decode cX0_write 44 = .ok (.aload_n 0, 1) := by decide +kernel
theorem dX0_write_45 : decode cX0_write 45 = .ok (.getfield 24, 3) := by decide +kernel
theorem dX0_write_48 : decode cX0_write 48 = .ok (.iload 4, 2) := by decide +kernel
theorem dX0_write_50 : decode cX0_write 50 = .ok (.iastore, 1) := by decide +kernel
theorem dX0_write_51 : decode cX0_write 51 = .ok (.aload_n 0, 1) := by decide +kernel
theorem dX0_write_52 : decode cX0_write 52 = .ok (.dup, 1) := by decide +kernel
theorem dX0_write_53 : decode cX0_write 53 = .ok (.getfield 24, 3) := by decide +kernel
theorem dX0_write_56 : decode cX0_write 56 = .ok (.iconst 1, 1) := by decide +kernel
theorem dX0_write_57 : decode cX0_write 57 = .ok (.iadd, 1) := by decide +kernel
theorem dX0_write_58 : decode cX0_write 58 = .ok (.putfield 24, 3) := by decide +kernel
theorem dX0_write_61 : decode cX0_write 61 = .ok (.return_, 1) := by decide +kernel
theorem dX0_placeOf_0 : decode cX0_placeOf 0 = .ok (.aload_n 0, 1) := by decide +kernel
theorem dX0_placeOf_1 : decode cX0_placeOf 1 = .ok (.getfield 24, 3) := by decide +kernel
theorem dX0_placeOf_4 : decode cX0_placeOf 4 = .ok (.sipush 600, 3) := by decide +kernel
theorem dX0_placeOf_7 : decode cX0_placeOf 7 = .ok (.invokestatic 28, 3) := by decide +kernel
theorem dX0_placeOf_10 : decode cX0_placeOf 10 = .ok (.iconst 1, 1) := by decide +kernel
theorem dX0_placeOf_11 : decode cX0_placeOf 11 = .ok (.isub, 1) := by decide +kernel
theorem dX0_placeOf_12 : decode cX0_placeOf 12 = .ok (.istore 4, 2) := by decide +kernel
theorem dX0_placeOf_14 : decode cX0_placeOf 14 = .ok (.iload 4, 2) := by decide +kernel
theorem dX0_placeOf_16 : decode cX0_placeOf 16 = .ok (.ifCond .lt 50, 3) := by decide +kernel
theorem dX0_placeOf_19 : decode cX0_placeOf 19 = .ok (.aload_n 0, 1) := by decide +kernel
theorem dX0_placeOf_20 : decode cX0_placeOf 20 = .ok (.getfield 9, 3) := by decide +kernel
theorem dX0_placeOf_23 : decode cX0_placeOf 23 = .ok (.iload 4, 2) := by decide +kernel
theorem dX0_placeOf_25 : decode cX0_placeOf 25 = .ok (.iaload, 1) := by decide +kernel
theorem dX0_placeOf_26 : decode cX0_placeOf 26 = .ok (.iload_n 1, 1) := by decide +kernel
theorem dX0_placeOf_27 : decode cX0_placeOf 27 = .ok (.if_icmp .ne 33, 3) := by decide +kernel
theorem dX0_placeOf_30 : decode cX0_placeOf 30 = .ok (.aload_n 0, 1) := by decide +kernel
theorem dX0_placeOf_31 : decode cX0_placeOf 31 = .ok (.getfield 15, 3) := by decide +kernel
theorem dX0_placeOf_34 : decode cX0_placeOf 34 = .ok (.iload 4, 2) := by decide +kernel
theorem dX0_placeOf_36 : decode cX0_placeOf 36 = .ok (.iaload, 1) := by decide +kernel
theorem dX0_placeOf_37 : decode cX0_placeOf 37 = .ok (.iload_n 2, 1) := by decide +kernel
theorem dX0_placeOf_38 : decode cX0_placeOf 38 = .ok (.if_icmp .gt 22, 3) := by decide +kernel
theorem dX0_placeOf_41 : decode cX0_placeOf 41 = .ok (.aload_n 0, 1) := by decide +kernel
theorem dX0_placeOf_42 : decode cX0_placeOf 42 = .ok (.getfield 18, 3) := by decide +kernel
theorem dX0_placeOf_45 : decode cX0_placeOf 45 = .ok (.iload 4, 2) := by decide +kernel
theorem dX0_placeOf_47 : decode cX0_placeOf 47 = .ok (.iaload, 1) := by decide +kernel
theorem dX0_placeOf_48 : decode cX0_placeOf 48 = .ok (.iload_n 3, 1) := by decide +kernel
theorem dX0_placeOf_49 : decode cX0_placeOf 49 = .ok (.if_icmp .gt 11, 3) := by decide +kernel
theorem dX0_placeOf_52 : decode cX0_placeOf 52 = .ok (.aload_n 0, 1) := by decide +kernel
theorem dX0_placeOf_53 : decode cX0_placeOf 53 = .ok (.getfield 21, 3) := by decide +kernel
theorem dX0_placeOf_56 : decode cX0_placeOf 56 = .ok (.iload 4, 2) := by decide +kernel
theorem dX0_placeOf_58 : decode cX0_placeOf 58 = .ok (.iaload, 1) := by decide +kernel
theorem dX0_placeOf_59 : decode cX0_placeOf 59 = .ok (.ireturn, 1) := by decide +kernel
theorem dX0_placeOf_60 : decode cX0_placeOf 60 = .ok (.iinc 4 (-1), 3) := by decide +kernel
theorem dX0_placeOf_63 : decode cX0_placeOf 63 = .ok (.goto (-49), 3) := by decide +kernel
theorem dX0_placeOf_66 : decode cX0_placeOf 66 = .ok (.iconst 0, 1) := by decide +kernel
theorem dX0_placeOf_67 : decode cX0_placeOf 67 = .ok (.ireturn, 1) := by decide +kernel
theorem dX1_init_0 : decode cX1_init 0 = .ok (.aload_n 0, 1) := by decide +kernel
theorem dX1_init_1 : decode cX1_init 1 = .ok (.invokespecial 3, 3) := by decide +kernel
theorem dX1_init_4 : decode cX1_init 4 = .ok (.aload_n 0, 1) := by decide +kernel
theorem dX1_init_5 : decode cX1_init 5 = .ok (.iload_n 1, 1) := by decide +kernel
theorem dX1_init_6 : decode cX1_init 6 = .ok (.putfield 9, 3) := by decide +kernel
theorem dX1_init_9 : decode cX1_init 9 = .ok (.aload_n 0, 1) := by decide +kernel
theorem dX1_init_10 : decode cX1_init 10 = .ok (.iload_n 2, 1) := by decide +kernel
theorem dX1_init_11 : decode cX1_init 11 = .ok (.putfield 15, 3) := by decide +kernel
theorem dX1_init_14 : decode cX1_init 14 = .ok (.aload_n 0, 1) := by decide +kernel
theorem dX1_init_15 : decode cX1_init 15 = .ok (.iload_n 3, 1) := by decide +kernel
theorem dX1_init_16 : decode cX1_init 16 = .ok (.putfield 18, 3) := by decide +kernel
theorem dX1_init_19 : decode cX1_init 19 = .ok (.aload_n 0, 1) := by decide +kernel
theorem dX1_init_20 : decode cX1_init 20 = .ok (.iload 4, 2) := by decide +kernel
theorem dX1_init_22 : decode cX1_init 22 = .ok (.putfield 21, 3) := by decide +kernel
theorem dX1_init_25 : decode cX1_init 25 = .ok (.aload_n 0, 1) := by decide +kernel
theorem dX1_init_26 : decode cX1_init 26 = .ok (.bipush 8, 2) := by decide +kernel
theorem dX1_init_28 : decode cX1_init 28 = .ok (.newarray .int, 2) := by decide +kernel
theorem dX1_init_30 : decode cX1_init 30 = .ok (.putfield 24, 3) := by decide +kernel
theorem dX1_init_33 : decode cX1_init 33 = .ok (.aload_n 0, 1) := by decide +kernel
theorem dX1_init_34 : decode cX1_init 34 = .ok (.getfield 24, 3) := by decide +kernel
theorem dX1_init_37 : decode cX1_init 37 = .ok (.iconst (-1), 1) := by decide +kernel
theorem dX1_init_38 : decode cX1_init 38 = .ok (.invokestatic 28, 3) := by decide +kernel
theorem dX1_init_41 : decode cX1_init 41 = .ok (.return_, 1) := by decide +kernel
theorem dX1_isWaiting_0 : decode cX1_isWaiting 0 = .ok (.iload_n 1, 1) := by decide +kernel
theorem dX1_isWaiting_1 : decode cX1_isWaiting 1 = .ok (.iconst 0, 1) := by decide +kernel
theorem dX1_isWaiting_2 : decode cX1_isWaiting 2 = .ok (.bipush 7, 2) := by decide +kernel
theorem dX1_isWaiting_4 : decode cX1_isWaiting 4 = .ok (.invokestatic 34, 3) := by decide +kernel
theorem dX1_isWaiting_7 : decode cX1_isWaiting 7 = .ok (.ifCond .eq 17, 3) := by decide +kernel
theorem dX1_isWaiting_10 : decode cX1_isWaiting 10 = .ok (.aload_n 0, 1) := by decide +kernel
theorem dX1_isWaiting_11 : decode cX1_isWaiting 11 = .ok (.getfield 24, 3) := by decide +kernel
theorem dX1_isWaiting_14 : decode cX1_isWaiting 14 = .ok (.iload_n 1, 1) := by decide +kernel
theorem dX1_isWaiting_15 : decode cX1_isWaiting 15 = .ok (.iaload, 1) := by decide +kernel
theorem dX1_isWaiting_16 : decode cX1_isWaiting 16 = .ok (.iconst (-1), 1) := by decide +kernel
theorem dX1_isWaiting_17 : decode cX1_isWaiting 17 = .ok (.if_icmp .eq 7, 3) := by decide +kernel
theorem dX1_isWaiting_20 : decode cX1_isWaiting 20 = .ok (.iconst 1, 1) := by decide +kernel
theorem dX1_isWaiting_21 : decode cX1_isWaiting 21 = .ok (.goto 4, 3) := by decide +kernel
theorem dX1_isWaiting_24 : decode cX1_isWaiting 24 = .ok (.iconst 0, 1) := by decide +kernel
theorem dX1_isWaiting_25 : decode cX1_isWaiting 25 = .ok (.ireturn, 1) := by decide +kernel
theorem dX1_daysWaited_0 : decode cX1_daysWaited 0 = .ok (.aload_n 0, 1) := by decide +kernel
theorem dX1_daysWaited_1 : decode cX1_daysWaited 1 = .ok (.iload_n 1, 1) := by decide +kernel
theorem dX1_daysWaited_2 : decode cX1_daysWaited 2 = .ok (.invokevirtual 38, 3) := by decide +kernel
theorem dX1_daysWaited_5 : decode cX1_daysWaited 5 = .ok (.ifCond .eq 14, 3) := by decide +kernel
theorem dX1_daysWaited_8 : decode cX1_daysWaited 8 = .ok (.iload_n 2, 1) := by decide +kernel
theorem dX1_daysWaited_9 : decode cX1_daysWaited 9 = .ok (.aload_n 0, 1) := by decide +kernel
theorem dX1_daysWaited_10 : decode cX1_daysWaited 10 = .ok (.getfield 24, 3) := by decide +kernel
theorem dX1_daysWaited_13 : decode cX1_daysWaited 13 = .ok (.iload_n 1, 1) := by decide +kernel
theorem dX1_daysWaited_14 : decode cX1_daysWaited 14 = .ok (.iaload, 1) := by decide +kernel
theorem dX1_daysWaited_15 : decode cX1_daysWaited 15 = .ok (.isub, 1) := by decide +kernel
theorem dX1_daysWaited_16 : decode cX1_daysWaited 16 = .ok (.goto 4, 3) := by decide +kernel
theorem dX1_daysWaited_19 : decode cX1_daysWaited 19 = .ok (.iconst 0, 1) := by decide +kernel
theorem dX1_daysWaited_20 : decode cX1_daysWaited 20 = .ok (.ireturn, 1) := by decide +kernel
theorem dX1_startWaiting_0 : decode cX1_startWaiting 0 = .ok (.iload_n 1, 1) := by decide +kernel
theorem dX1_startWaiting_1 : decode cX1_startWaiting 1 = .ok (.iconst 0, 1) := by decide +kernel
theorem dX1_startWaiting_2 : decode cX1_startWaiting 2 = .ok (.bipush 7, 2) := by decide +kernel
theorem dX1_startWaiting_4 : decode cX1_startWaiting 4 = .ok (.invokestatic 34, 3) := by decide +kernel
theorem dX1_startWaiting_7 : decode cX1_startWaiting 7 = .ok (.ifCond .eq 10, 3) := by decide +kernel
theorem dX1_startWaiting_10 : decode cX1_startWaiting 10 = .ok (.aload_n 0, 1) := by decide +kernel
theorem dX1_startWaiting_11 : decode cX1_startWaiting 11 = .ok (.getfield 24, 3) := by decide +kernel
theorem dX1_startWaiting_14 : decode cX1_startWaiting 14 = .ok (.iload_n 1, 1) := by decide +kernel
theorem dX1_startWaiting_15 : decode cX1_startWaiting 15 = .ok (.iload_n 2, 1) := by decide +kernel
theorem dX1_startWaiting_16 : decode cX1_startWaiting 16 = .ok (.iastore, 1) := by decide +kernel
theorem dX1_startWaiting_17 : decode cX1_startWaiting 17 = .ok (.return_, 1) := by decide +kernel
theorem dX1_stopWaiting_0 : decode cX1_stopWaiting 0 = .ok (.iload_n 1, 1) := by decide +kernel
theorem dX1_stopWaiting_1 : decode cX1_stopWaiting 1 = .ok (.iconst 0, 1) := by decide +kernel
theorem dX1_stopWaiting_2 : decode cX1_stopWaiting 2 = .ok (.bipush 7, 2) := by decide +kernel
theorem dX1_stopWaiting_4 : decode cX1_stopWaiting 4 = .ok (.invokestatic 34, 3) := by decide +kernel
theorem dX1_stopWaiting_7 : decode cX1_stopWaiting 7 = .ok (.ifCond .eq 10, 3) := by decide +kernel
theorem dX1_stopWaiting_10 : decode cX1_stopWaiting 10 = .ok (.aload_n 0, 1) := by decide +kernel
theorem dX1_stopWaiting_11 : decode cX1_stopWaiting 11 = .ok (.getfield 24, 3) := by decide +kernel
theorem dX1_stopWaiting_14 : decode cX1_stopWaiting 14 = .ok (.iload_n 1, 1) := by decide +kernel
theorem dX1_stopWaiting_15 : decode cX1_stopWaiting 15 = .ok (.iconst (-1), 1) := by decide +kernel
theorem dX1_stopWaiting_16 : decode cX1_stopWaiting 16 = .ok (.iastore, 1) := by decide +kernel
theorem dX1_stopWaiting_17 : decode cX1_stopWaiting 17 = .ok (.return_, 1) := by decide +kernel
theorem dX2_init_0 : decode cX2_init 0 = .ok (.aload_n 0, 1) := by decide +kernel
theorem dX2_init_1 : decode cX2_init 1 = .ok (.invokespecial 3, 3) := by decide +kernel
theorem dX2_init_4 : decode cX2_init 4 = .ok (.aload_n 0, 1) := by decide +kernel
theorem dX2_init_5 : decode cX2_init 5 = .ok (.iload_n 1, 1) := by decide +kernel
theorem dX2_init_6 : decode cX2_init 6 = .ok (.putfield 9, 3) := by decide +kernel
theorem dX2_init_9 : decode cX2_init 9 = .ok (.aload_n 0, 1) := by decide +kernel
theorem dX2_init_10 : decode cX2_init 10 = .ok (.iload_n 2, 1) := by decide +kernel
theorem dX2_init_11 : decode cX2_init 11 = .ok (.putfield 15, 3) := by decide +kernel
theorem dX2_init_14 : decode cX2_init 14 = .ok (.aload_n 0, 1) := by decide +kernel
theorem dX2_init_15 : decode cX2_init 15 = .ok (.iload_n 3, 1) := by decide +kernel
theorem dX2_init_16 : decode cX2_init 16 = .ok (.putfield 18, 3) := by decide +kernel
theorem dX2_init_19 : decode cX2_init 19 = .ok (.aload_n 0, 1) := by decide +kernel
theorem dX2_init_20 : decode cX2_init 20 = .ok (.iload 4, 2) := by decide +kernel
theorem dX2_init_22 : decode cX2_init 22 = .ok (.putfield 21, 3) := by decide +kernel
theorem dX2_init_25 : decode cX2_init 25 = .ok (.aload_n 0, 1) := by decide +kernel
theorem dX2_init_26 : decode cX2_init 26 = .ok (.iload 5, 2) := by decide +kernel
theorem dX2_init_28 : decode cX2_init 28 = .ok (.putfield 24, 3) := by decide +kernel
theorem dX2_init_31 : decode cX2_init 31 = .ok (.aload_n 0, 1) := by decide +kernel
theorem dX2_init_32 : decode cX2_init 32 = .ok (.iload 6, 2) := by decide +kernel
theorem dX2_init_34 : decode cX2_init 34 = .ok (.putfield 27, 3) := by decide +kernel
theorem dX2_init_37 : decode cX2_init 37 = .ok (.aload_n 0, 1) := by decide +kernel
theorem dX2_init_38 : decode cX2_init 38 = .ok (.bipush 6, 2) := by decide +kernel
theorem dX2_init_40 : decode cX2_init 40 = .ok (.newarray .int, 2) := by decide +kernel
theorem dX2_init_42 : decode cX2_init 42 = .ok (.putfield 30, 3) := by decide +kernel
theorem dX2_init_45 : decode cX2_init 45 = .ok (.aload_n 0, 1) := by decide +kernel
theorem dX2_init_46 : decode cX2_init 46 = .ok (.bipush 6, 2) := by decide +kernel
theorem dX2_init_48 : decode cX2_init 48 = .ok (.newarray .int, 2) := by decide +kernel
theorem dX2_init_50 : decode cX2_init 50 = .ok (.putfield 34, 3) := by decide +kernel
theorem dX2_init_53 : decode cX2_init 53 = .ok (.return_, 1) := by decide +kernel
theorem dX3_init_0 : decode cX3_init 0 = .ok (.aload_n 0, 1) := by decide +kernel
theorem dX3_init_1 : decode cX3_init 1 = .ok (.invokespecial 3, 3) := by decide +kernel
theorem dX3_init_4 : decode cX3_init 4 = .ok (.aload_n 0, 1) := by decide +kernel
theorem dX3_init_5 : decode cX3_init 5 = .ok (.bipush 16, 2) := by decide +kernel
theorem dX3_init_7 : decode cX3_init 7 = .ok (.newarray .int, 2) := by decide +kernel
theorem dX3_init_9 : decode cX3_init 9 = .ok (.putfield 9, 3) := by decide +kernel
theorem dX3_init_12 : decode cX3_init 12 = .ok (.aload_n 0, 1) := by decide +kernel
theorem dX3_init_13 : decode cX3_init 13 = .ok (.bipush 10, 2) := by decide +kernel
theorem dX3_init_15 : decode cX3_init 15 = .ok (.newarray .int, 2) := by decide +kernel
theorem dX3_init_17 : decode cX3_init 17 = .ok (.putfield 15, 3) := by decide +kernel
theorem dX3_init_20 : decode cX3_init 20 = .ok (.return_, 1) := by decide +kernel
theorem dX3_allow_0 : decode cX3_allow 0 = .ok (.iload_n 1, 1) := by decide +kernel
theorem dX3_allow_1 : decode cX3_allow 1 = .ok (.iconst 0, 1) := by decide +kernel
theorem dX3_allow_2 : decode cX3_allow 2 = .ok (.bipush 15, 2) := by decide +kernel
theorem dX3_allow_4 : decode cX3_allow 4 = .ok (.invokestatic 18, 3) := by decide +kernel
theorem dX3_allow_7 : decode cX3_allow 7 = .ok (.ifCond .eq 10, 3) := by decide +kernel
theorem dX3_allow_10 : decode cX3_allow 10 = .ok (.aload_n 0, 1) := by decide +kernel
theorem dX3_allow_11 : decode cX3_allow 11 = .ok (.getfield 9, 3) := by decide +kernel
theorem dX3_allow_14 : decode cX3_allow 14 = .ok (.iload_n 1, 1) := by decide +kernel
theorem dX3_allow_15 : decode cX3_allow 15 = .ok (.iload_n 2, 1) := by decide +kernel
theorem dX3_allow_16 : decode cX3_allow 16 = .ok (.iastore, 1) := by decide +kernel
theorem dX3_allow_17 : decode cX3_allow 17 = .ok (.return_, 1) := by decide +kernel
theorem dX3_leastSet_0 : decode cX3_leastSet 0 = .ok (.aload_n 0, 1) := by decide +kernel
theorem dX3_leastSet_1 : decode cX3_leastSet 1 = .ok (.getfield 15, 3) := by decide +kernel
theorem dX3_leastSet_4 : decode cX3_leastSet 4 = .ok (.iconst (-1), 1) := by decide +kernel
theorem dX3_leastSet_5 : decode cX3_leastSet 5 = .ok (.invokestatic 22, 3) := by decide +kernel
theorem dX3_leastSet_8 : decode cX3_leastSet 8 = .ok (.iconst 0, 1) := by decide +kernel
theorem dX3_leastSet_9 : decode cX3_leastSet 9 = .ok (.istore_n 3, 1) := by decide +kernel
theorem dX3_leastSet_10 : decode cX3_leastSet 10 = .ok (.iconst 0, 1) := by decide +kernel
theorem dX3_leastSet_11 : decode cX3_leastSet 11 = .ok (.istore 4, 2) := by decide +kernel
theorem dX3_leastSet_13 : decode cX3_leastSet 13 = .ok (.iconst 0, 1) := by decide +kernel
theorem dX3_leastSet_14 : decode cX3_leastSet 14 = .ok (.istore 5, 2) := by decide +kernel
theorem dX3_leastSet_16 : decode cX3_leastSet 16 = .ok (.iload 5, 2) := by decide +kernel
theorem dX3_leastSet_18 : decode cX3_leastSet 18 = .ok (.iload_n 1, 1) := by decide +kernel
theorem dX3_leastSet_19 : decode cX3_leastSet 19 = .ok (.if_icmp .ge 47, 3) := by decide +kernel
theorem dX3_leastSet_22 : decode cX3_leastSet 22 = .ok (.iload 5, 2) := by decide +kernel
theorem dX3_leastSet_24 : decode cX3_leastSet 24 = .ok (.bipush 16, 2) := by decide +kernel
theorem dX3_leastSet_26 : decode cX3_leastSet 26 = .ok (.if_icmp .ge 40, 3) := by decide +kernel
theorem dX3_leastSet_29 : decode cX3_leastSet 29 = .ok (.iload 4, 2) := by decide +kernel
theorem dX3_leastSet_31 : decode cX3_leastSet 31 = .ok (.iload_n 2, 1) := by decide +kernel
theorem dX3_leastSet_32 : decode cX3_leastSet 32 = .ok (.if_icmp .ge 34, 3) := by decide +kernel
theorem dX3_leastSet_35 : decode cX3_leastSet 35 = .ok (.aload_n 0, 1) := by decide +kernel
theorem dX3_leastSet_36 : decode cX3_leastSet 36 = .ok (.iconst 0, 1) := by decide +kernel
theorem dX3_leastSet_37 : decode cX3_leastSet 37 = .ok (.putfield 28, 3) := by decide +kernel
theorem dX3_leastSet_40 : decode cX3_leastSet 40 = .ok (.aload_n 0, 1) := by decide +kernel
theorem dX3_leastSet_41 : decode cX3_leastSet 41 = .ok (.iload 5, 2) := by decide +kernel
theorem dX3_leastSet_43 : decode cX3_leastSet 43 = .ok (.iconst 0, 1) := by decide +kernel
theorem dX3_leastSet_44 : decode cX3_leastSet 44 = .ok (.invokevirtual 32, 3) := by decide +kernel
theorem dX3_leastSet_47 : decode cX3_leastSet 47 = .ok (.ifCond .eq 13, 3) := by decide +kernel
theorem dX3_leastSet_50 : decode cX3_leastSet 50 = .ok (.iload_n 3, 1) := by decide +kernel
theorem dX3_leastSet_51 : decode cX3_leastSet 51 = .ok (.iconst 1, 1) := by decide +kernel
theorem dX3_leastSet_52 : decode cX3_leastSet 52 = .ok (.iload 5, 2) := by decide +kernel
theorem dX3_leastSet_54 : decode cX3_leastSet 54 = .ok (.ishl, 1) := by decide +kernel
theorem dX3_leastSet_55 : decode cX3_leastSet 55 = .ok (.ior, 1) := by decide +kernel
theorem dX3_leastSet_56 : decode cX3_leastSet 56 = .ok (.istore_n 3, 1) := by decide +kernel
theorem dX3_leastSet_57 : decode cX3_leastSet 57 = .ok (.iinc 4 1, 3) := by decide +kernel
theorem dX3_leastSet_60 : decode cX3_leastSet 60 = .ok (.iinc 5 1, 3) := by decide +kernel
theorem dX3_leastSet_63 : decode cX3_leastSet 63 = .ok (.goto (-47), 3) := by decide +kernel
theorem dX3_leastSet_66 : decode cX3_leastSet 66 = .ok (.iload_n 3, 1) := by decide +kernel
theorem dX3_leastSet_67 : decode cX3_leastSet 67 = .ok (.ireturn, 1) := by decide +kernel
theorem dX3_findFamily_0 : decode cX3_findFamily 0 = .ok (.iload_n 2, 1) := by decide +kernel
theorem dX3_findFamily_1 : decode cX3_findFamily 1 = .ok (.bipush 10, 2) := by decide +kernel
theorem dX3_findFamily_3 : decode cX3_findFamily 3 = .ok (.if_icmp .gt 13, 3) := by decide +kernel
theorem dX3_findFamily_6 : decode cX3_findFamily 6 = .ok (.iload_n 1, 1) := by decide +kernel
theorem dX3_findFamily_7 : decode cX3_findFamily 7 = .ok (.iconst 0, 1) := by decide +kernel
theorem dX3_findFamily_8 : decode cX3_findFamily 8 = .ok (.bipush 15, 2) := by decide +kernel
theorem dX3_findFamily_10 : decode cX3_findFamily 10 = .ok (.invokestatic 18, 3) := by decide +kernel
theorem dX3_findFamily_13 : decode cX3_findFamily 13 = .ok (.ifCond .ne 5, 3) := by decide +kernel
theorem dX3_findFamily_16 : decode cX3_findFamily 16 = .ok (.iconst 0, 1) := by decide +kernel
theorem dX3_findFamily_17 : decode cX3_findFamily 17 = .ok (.ireturn, 1) := by decide +kernel
theorem dX3_findFamily_18 : decode cX3_findFamily 18 = .ok (.iconst 0, 1) := by decide +kernel
theorem dX3_findFamily_19 : decode cX3_findFamily 19 = .ok (.istore_n 3, 1) := by decide +kernel
theorem dX3_findFamily_20 : decode cX3_findFamily 20 = .ok (.iload_n 3, 1) := by decide +kernel
theorem dX3_findFamily_21 : decode cX3_findFamily 21 = .ok (.bipush 10, 2) := by decide +kernel
theorem dX3_findFamily_23 : decode cX3_findFamily 23 = .ok (.if_icmp .ge 93, 3) := by decide +kernel
theorem dX3_findFamily_26 : decode cX3_findFamily 26 = .ok (.aload_n 0, 1) := by decide +kernel
theorem dX3_findFamily_27 : decode cX3_findFamily 27 = .ok (.getfield 9, 3) := by decide +kernel
theorem dX3_findFamily_30 : decode cX3_findFamily 30 = .ok (.iload_n 1, 1) := by decide +kernel
theorem dX3_findFamily_31 : decode cX3_findFamily 31 = .ok (.iaload, 1) := by decide +kernel
theorem dX3_findFamily_32 : decode cX3_findFamily 32 = .ok (.iload_n 3, 1) := by decide +kernel
theorem dX3_findFamily_33 : decode cX3_findFamily 33 = .ok (.ishr, 1) := by decide +kernel
theorem dX3_findFamily_34 : decode cX3_findFamily 34 = .ok (.iconst 1, 1) := by decide +kernel
theorem dX3_findFamily_35 : decode cX3_findFamily 35 = .ok (.iand, 1) := by decide +kernel
theorem dX3_findFamily_36 : decode cX3_findFamily 36 = .ok (.iconst 1, 1) := by decide +kernel
theorem dX3_findFamily_37 : decode cX3_findFamily 37 = .ok (.if_icmp .ne 18, 3) := by decide +kernel
theorem dX3_findFamily_40 : decode cX3_findFamily 40 = .ok (.aload_n 0, 1) := by decide +kernel
theorem dX3_findFamily_41 : decode cX3_findFamily 41 = .ok (.getfield 28, 3) := by decide +kernel
theorem dX3_findFamily_44 : decode cX3_findFamily 44 = .ok (.iload_n 3, 1) := by decide +kernel
theorem dX3_findFamily_45 : decode cX3_findFamily 45 = .ok (.ishr, 1) := by decide +kernel
theorem dX3_findFamily_46 : decode cX3_findFamily 46 = .ok (.iconst 1, 1) := by decide +kernel
theorem dX3_findFamily_47 : decode cX3_findFamily 47 = .ok (.iand, 1) := by decide +kernel
theorem dX3_findFamily_48 : decode cX3_findFamily 48 = .ok (.ifCond .ne 7, 3) := by decide +kernel
theorem dX3_findFamily_51 : decode cX3_findFamily 51 = .ok (.iconst 1, 1) := by decide +kernel
theorem dX3_findFamily_52 : decode cX3_findFamily 52 = .ok (.goto 4, 3) := by decide +kernel
theorem dX3_findFamily_55 : decode cX3_findFamily 55 = .ok (.iconst 0, 1) := by decide +kernel
theorem dX3_findFamily_56 : decode cX3_findFamily 56 = .ok (.istore 4, 2) := by decide +kernel
theorem dX3_findFamily_58 : decode cX3_findFamily 58 = .ok (.iload 4, 2) := by decide +kernel
theorem dX3_findFamily_60 : decode cX3_findFamily 60 = .ok (.ifCond .eq 50, 3) := by decide +kernel
theorem dX3_findFamily_63 : decode cX3_findFamily 63 = .ok (.aload_n 0, 1) := by decide +kernel
theorem dX3_findFamily_64 : decode cX3_findFamily 64 = .ok (.dup, 1) := by decide +kernel
theorem dX3_findFamily_65 : decode cX3_findFamily 65 = .ok (.getfield 28, 3) := by decide +kernel
theorem dX3_findFamily_68 : decode cX3_findFamily 68 = .ok (.iconst 1, 1) := by decide +kernel
theorem dX3_findFamily_69 : decode cX3_findFamily 69 = .ok (.iload_n 3, 1) := by decide +kernel
theorem dX3_findFamily_70 : decode cX3_findFamily 70 = .ok (.ishl, 1) := by decide +kernel
theorem dX3_findFamily_71 : decode cX3_findFamily 71 = .ok (.ior, 1) := by decide +kernel
theorem dX3_findFamily_72 : decode cX3_findFamily 72 = .ok (.putfield 28, 3) := by decide +kernel
theorem dX3_findFamily_75 : decode cX3_findFamily 75 = .ok (.aload_n 0, 1) := by decide +kernel
theorem dX3_findFamily_76 : decode cX3_findFamily 76 = .ok (.getfield 15, 3) := by decide +kernel
theorem dX3_findFamily_79 : decode cX3_findFamily 79 = .ok (.iload_n 3, 1) := by decide +kernel
theorem dX3_findFamily_80 : decode cX3_findFamily 80 = .ok (.iaload, 1) := by decide +kernel
theorem dX3_findFamily_81 : decode cX3_findFamily 81 = .ok (.iconst (-1), 1) := by decide +kernel
theorem dX3_findFamily_82 : decode cX3_findFamily 82 = .ok (.if_icmp .eq 19, 3) := by decide +kernel
theorem dX3_findFamily_85 : decode cX3_findFamily 85 = .ok (.aload_n 0, 1) := by decide +kernel
theorem dX3_findFamily_86 : decode cX3_findFamily 86 = .ok (.aload_n 0, 1) := by decide +kernel
theorem dX3_findFamily_87 : decode cX3_findFamily 87 = .ok (.getfield 15, 3) := by decide +kernel
theorem dX3_findFamily_90 : decode cX3_findFamily 90 = .ok (.iload_n 3, 1) := by decide +kernel
theorem dX3_findFamily_91 : decode cX3_findFamily 91 = .ok (.iaload, 1) := by decide +kernel
theorem dX3_findFamily_92 : decode cX3_findFamily 92 = .ok (.iload_n 2, 1) := by decide +kernel
theorem dX3_findFamily_93 : decode cX3_findFamily 93 = .ok (.iconst 1, 1) := by decide +kernel
theorem dX3_findFamily_94 : decode cX3_findFamily 94 = .ok (.iadd, 1) := by decide +kernel
theorem dX3_findFamily_95 : decode cX3_findFamily 95 = .ok (.invokevirtual 32, 3) := by decide +kernel
theorem dX3_findFamily_98 : decode cX3_findFamily 98 = .ok (.ifCond .eq 12, 3) := by decide +kernel
theorem dX3_findFamily_101 : decode cX3_findFamily 101 = .ok (.aload_n 0, 1) := by decide +kernel
theorem dX3_findFamily_102 : decode cX3_findFamily 102 = .ok (.getfield 15, 3) := by decide +kernel
theorem dX3_findFamily_105 : decode cX3_findFamily 105 = .ok (.iload_n 3, 1) := by decide +kernel
theorem dX3_findFamily_106 : decode cX3_findFamily 106 = .ok (.iload_n 1, 1) := by decide +kernel
theorem dX3_findFamily_107 : decode cX3_findFamily 107 = .ok (.iastore, 1) := by decide +kernel
theorem dX3_findFamily_108 : decode cX3_findFamily 108 = .ok (.iconst 1, 1) := by decide +kernel
theorem dX3_findFamily_109 : decode cX3_findFamily 109 = .ok (.ireturn, 1) := by decide +kernel
theorem dX3_findFamily_110 : decode cX3_findFamily 110 = .ok (.iinc 3 1, 3) := by decide +kernel
theorem dX3_findFamily_113 : decode cX3_findFamily 113 = .ok (.goto (-93), 3) := by decide +kernel
theorem dX3_findFamily_116 : decode cX3_findFamily 116 = .ok (.iconst 0, 1) := by decide +kernel
theorem dX3_findFamily_117 : decode cX3_findFamily 117 = .ok (.ireturn, 1) := by decide +kernel
theorem dX4_init_0 : decode cX4_init 0 = .ok (.aload_n 0, 1) := by decide +kernel
theorem dX4_init_1 : decode cX4_init 1 = .ok (.invokespecial 3, 3) := by decide +kernel
theorem dX4_init_4 : decode cX4_init 4 = .ok (.aload_n 0, 1) := by decide +kernel
theorem dX4_init_5 : decode cX4_init 5 = .ok (.iload_n 1, 1) := by decide +kernel
theorem dX4_init_6 : decode cX4_init 6 = .ok (.putfield 9, 3) := by decide +kernel
theorem dX4_init_9 : decode cX4_init 9 = .ok (.aload_n 0, 1) := by decide +kernel
theorem dX4_init_10 : decode cX4_init 10 = .ok (.iload_n 2, 1) := by decide +kernel
theorem dX4_init_11 : decode cX4_init 11 = .ok (.putfield 15, 3) := by decide +kernel
theorem dX4_init_14 : decode cX4_init 14 = .ok (.aload_n 0, 1) := by decide +kernel
theorem dX4_init_15 : decode cX4_init 15 = .ok (.iload_n 3, 1) := by decide +kernel
theorem dX4_init_16 : decode cX4_init 16 = .ok (.putfield 18, 3) := by decide +kernel
theorem dX4_init_19 : decode cX4_init 19 = .ok (.aload_n 0, 1) := by decide +kernel
theorem dX4_init_20 : decode cX4_init 20 = .ok (.iload 4, 2) := by decide +kernel
theorem dX4_init_22 : decode cX4_init 22 = .ok (.putfield 21, 3) := by decide +kernel
theorem dX4_init_25 : decode cX4_init 25 = .ok (.aload_n 0, 1) := by decide +kernel
theorem dX4_init_26 : decode cX4_init 26 = .ok (.bipush 10, 2) := by decide +kernel
theorem dX4_init_28 : decode cX4_init 28 = .ok (.newarray .int, 2) := by decide +kernel
theorem dX4_init_30 : decode cX4_init 30 = .ok (.putfield 24, 3) := by decide +kernel
theorem dX4_init_33 : decode cX4_init 33 = .ok (.aload_n 0, 1) := by decide +kernel
theorem dX4_init_34 : decode cX4_init 34 = .ok (.getfield 24, 3) := by decide +kernel
theorem dX4_init_37 : decode cX4_init 37 = .ok (.iconst (-1), 1) := by decide +kernel
theorem dX4_init_38 : decode cX4_init 38 = .ok (.invokestatic 28, 3) := by decide +kernel
theorem dX4_init_41 : decode cX4_init 41 = .ok (.return_, 1) := by decide +kernel
theorem dX4_covers_0 : decode cX4_covers 0 = .ok (.aload_n 1, 1) := by decide +kernel
theorem dX4_covers_1 : decode cX4_covers 1 = .ok (.getfield 34, 3) := by decide +kernel
theorem dX4_covers_4 : decode cX4_covers 4 = .ok (.getfield 40, 3) := by decide +kernel
theorem dX4_covers_7 : decode cX4_covers 7 = .ok (.aload_n 0, 1) := by decide +kernel
theorem dX4_covers_8 : decode cX4_covers 8 = .ok (.getfield 9, 3) := by decide +kernel
theorem dX4_covers_11 : decode cX4_covers 11 = .ok (.if_icmp .ne 25, 3) := by decide +kernel
theorem dX4_covers_14 : decode cX4_covers 14 = .ok (.aload_n 1, 1) := by decide +kernel
theorem dX4_covers_15 : decode cX4_covers 15 = .ok (.getfield 43, 3) := by decide +kernel
theorem dX4_covers_18 : decode cX4_covers 18 = .ok (.aload_n 0, 1) := by decide +kernel
theorem dX4_covers_19 : decode cX4_covers 19 = .ok (.getfield 15, 3) := by decide +kernel
theorem dX4_covers_22 : decode cX4_covers 22 = .ok (.aload_n 0, 1) := by decide +kernel
theorem dX4_covers_23 : decode cX4_covers 23 = .ok (.getfield 18, 3) := by decide +kernel
theorem dX4_covers_26 : decode cX4_covers 26 = .ok (.invokestatic 46, 3) := by decide +kernel
theorem dX4_covers_29 : decode cX4_covers 29 = .ok (.ifCond .eq 7, 3) := by decide +kernel
theorem dX4_covers_32 : decode cX4_covers 32 = .ok (.iconst 1, 1) := by decide +kernel
theorem dX4_covers_33 : decode cX4_covers 33 = .ok (.goto 4, 3) := by decide +kernel
theorem dX4_covers_36 : decode cX4_covers 36 = .ok (.iconst 0, 1) := by decide +kernel
theorem dX4_covers_37 : decode cX4_covers 37 = .ok (.ireturn, 1) := by decide +kernel
theorem dX4_wasTold_0 : decode cX4_wasTold 0 = .ok (.iload_n 1, 1) := by decide +kernel
theorem dX4_wasTold_1 : decode cX4_wasTold 1 = .ok (.iconst 0, 1) := by decide +kernel
theorem dX4_wasTold_2 : decode cX4_wasTold 2 = .ok (.bipush 9, 2) := by decide +kernel
theorem dX4_wasTold_4 : decode cX4_wasTold 4 = .ok (.invokestatic 46, 3) := by decide +kernel
theorem dX4_wasTold_7 : decode cX4_wasTold 7 = .ok (.ifCond .eq 17, 3) := by decide +kernel
theorem dX4_wasTold_10 : decode cX4_wasTold 10 = .ok (.aload_n 0, 1) := by decide +kernel
theorem dX4_wasTold_11 : decode cX4_wasTold 11 = .ok (.getfield 24, 3) := by decide +kernel
theorem dX4_wasTold_14 : decode cX4_wasTold 14 = .ok (.iload_n 1, 1) := by decide +kernel
theorem dX4_wasTold_15 : decode cX4_wasTold 15 = .ok (.iaload, 1) := by decide +kernel
theorem dX4_wasTold_16 : decode cX4_wasTold 16 = .ok (.iconst (-1), 1) := by decide +kernel
theorem dX4_wasTold_17 : decode cX4_wasTold 17 = .ok (.if_icmp .eq 7, 3) := by decide +kernel
theorem dX4_wasTold_20 : decode cX4_wasTold 20 = .ok (.iconst 1, 1) := by decide +kernel
theorem dX4_wasTold_21 : decode cX4_wasTold 21 = .ok (.goto 4, 3) := by decide +kernel
theorem dX4_wasTold_24 : decode cX4_wasTold 24 = .ok (.iconst 0, 1) := by decide +kernel
theorem dX4_wasTold_25 : decode cX4_wasTold 25 = .ok (.ireturn, 1) := by decide +kernel
theorem dX4_tell_0 : decode cX4_tell 0 = .ok (.iload_n 1, 1) := by decide +kernel
theorem dX4_tell_1 : decode cX4_tell 1 = .ok (.iconst 0, 1) := by decide +kernel
theorem dX4_tell_2 : decode cX4_tell 2 = .ok (.bipush 9, 2) := by decide +kernel
theorem dX4_tell_4 : decode cX4_tell 4 = .ok (.invokestatic 46, 3) := by decide +kernel
theorem dX4_tell_7 : decode cX4_tell 7 = .ok (.ifCond .eq 10, 3) := by decide +kernel
theorem dX4_tell_10 : decode cX4_tell 10 = .ok (.aload_n 0, 1) := by decide +kernel
theorem dX4_tell_11 : decode cX4_tell 11 = .ok (.getfield 24, 3) := by decide +kernel
theorem dX4_tell_14 : decode cX4_tell 14 = .ok (.iload_n 1, 1) := by decide +kernel
theorem dX4_tell_15 : decode cX4_tell 15 = .ok (.iload_n 2, 1) := by decide +kernel
theorem dX4_tell_16 : decode cX4_tell 16 = .ok (.iastore, 1) := by decide +kernel
theorem dX4_tell_17 : decode cX4_tell 17 = .ok (.return_, 1) := by decide +kernel
theorem dX4_toldSet_0 : decode cX4_toldSet 0 = .ok (.iconst 0, 1) := by decide +kernel
theorem dX4_toldSet_1 : decode cX4_toldSet 1 = .ok (.istore_n 1, 1) := by decide +kernel
theorem dX4_toldSet_2 : decode cX4_toldSet 2 = .ok (.iconst 0, 1) := by decide +kernel
theorem dX4_toldSet_3 : decode cX4_toldSet 3 = .ok (.istore_n 2, 1) := by decide +kernel
theorem dX4_toldSet_4 : decode cX4_toldSet 4 = .ok (.iload_n 2, 1) := by decide +kernel
theorem dX4_toldSet_5 : decode cX4_toldSet 5 = .ok (.bipush 10, 2) := by decide +kernel
theorem dX4_toldSet_7 : decode cX4_toldSet 7 = .ok (.if_icmp .ge 23, 3) := by decide +kernel
theorem dX4_toldSet_10 : decode cX4_toldSet 10 = .ok (.aload_n 0, 1) := by decide +kernel
theorem dX4_toldSet_11 : decode cX4_toldSet 11 = .ok (.iload_n 2, 1) := by decide +kernel
theorem dX4_toldSet_12 : decode cX4_toldSet 12 = .ok (.invokevirtual 50, 3) := by decide +kernel
theorem dX4_toldSet_15 : decode cX4_toldSet 15 = .ok (.ifCond .eq 9, 3) := by decide +kernel
theorem dX4_toldSet_18 : decode cX4_toldSet 18 = .ok (.iload_n 1, 1) := by decide +kernel
theorem dX4_toldSet_19 : decode cX4_toldSet 19 = .ok (.iconst 1, 1) := by decide +kernel
theorem dX4_toldSet_20 : decode cX4_toldSet 20 = .ok (.iload_n 2, 1) := by decide +kernel
theorem dX4_toldSet_21 : decode cX4_toldSet 21 = .ok (.ishl, 1) := by decide +kernel
theorem dX4_toldSet_22 : decode cX4_toldSet 22 = .ok (.ior, 1) := by decide +kernel
theorem dX4_toldSet_23 : decode cX4_toldSet 23 = .ok (.istore_n 1, 1) := by decide +kernel
theorem dX4_toldSet_24 : decode cX4_toldSet 24 = .ok (.iinc 2 1, 3) := by decide +kernel
theorem dX4_toldSet_27 : decode cX4_toldSet 27 = .ok (.goto (-23), 3) := by decide +kernel
theorem dX4_toldSet_30 : decode cX4_toldSet 30 = .ok (.iload_n 1, 1) := by decide +kernel
theorem dX4_toldSet_31 : decode cX4_toldSet 31 = .ok (.ireturn, 1) := by decide +kernel
theorem dX4_toldInTime_0 : decode cX4_toldInTime 0 = .ok (.iconst 0, 1) := by decide +kernel
theorem dX4_toldInTime_1 : decode cX4_toldInTime 1 = .ok (.istore_n 1, 1) := by decide +kernel
theorem dX4_toldInTime_2 : decode cX4_toldInTime 2 = .ok (.iconst 0, 1) := by decide +kernel
theorem dX4_toldInTime_3 : decode cX4_toldInTime 3 = .ok (.istore_n 2, 1) := by decide +kernel
theorem dX4_toldInTime_4 : decode cX4_toldInTime 4 = .ok (.iload_n 2, 1) := by decide +kernel
theorem dX4_toldInTime_5 : decode cX4_toldInTime 5 = .ok (.bipush 10, 2) := by decide +kernel
theorem dX4_toldInTime_7 : decode cX4_toldInTime 7 = .ok (.if_icmp .ge 57, 3) := by decide +kernel
theorem dX4_toldInTime_10 : decode cX4_toldInTime 10 = .ok (.aload_n 0, 1) := by decide +kernel
theorem dX4_toldInTime_11 : decode cX4_toldInTime 11 = .ok (.getfield 54, 3) := by decide +kernel
theorem dX4_toldInTime_14 : decode cX4_toldInTime 14 = .ok (.iload_n 2, 1) := by decide +kernel
theorem dX4_toldInTime_15 : decode cX4_toldInTime 15 = .ok (.ishr, 1) := by decide +kernel
theorem dX4_toldInTime_16 : decode cX4_toldInTime 16 = .ok (.iconst 1, 1) := by decide +kernel
theorem dX4_toldInTime_17 : decode cX4_toldInTime 17 = .ok (.iand, 1) := by decide +kernel
theorem dX4_toldInTime_18 : decode cX4_toldInTime 18 = .ok (.iconst 1, 1) := by decide +kernel
theorem dX4_toldInTime_19 : decode cX4_toldInTime 19 = .ok (.if_icmp .ne 7, 3) := by decide +kernel
theorem dX4_toldInTime_22 : decode cX4_toldInTime 22 = .ok (.iconst 1, 1) := by decide +kernel
theorem dX4_toldInTime_23 : decode cX4_toldInTime 23 = .ok (.goto 4, 3) := by decide +kernel
theorem dX4_toldInTime_26 : decode cX4_toldInTime 26 = .ok (.iconst 0, 1) := by decide +kernel
theorem dX4_toldInTime_27 : decode cX4_toldInTime 27 = .ok (.istore_n 3, 1) := by decide +kernel
theorem dX4_toldInTime_28 : decode cX4_toldInTime 28 = .ok (.iload_n 3, 1) := by decide +kernel
theorem dX4_toldInTime_29 : decode cX4_toldInTime 29 = .ok (.ifCond .eq 29, 3) := by decide +kernel
theorem dX4_toldInTime_32 : decode cX4_toldInTime 32 = .ok (.aload_n 0, 1) := by decide +kernel
theorem dX4_toldInTime_33 : decode cX4_toldInTime 33 = .ok (.iload_n 2, 1) := by decide +kernel
theorem dX4_toldInTime_34 : decode cX4_toldInTime 34 = .ok (.invokevirtual 50, 3) := by decide +kernel
theorem dX4_toldInTime_37 : decode cX4_toldInTime 37 = .ok (.ifCond .eq 21, 3) := by decide +kernel
theorem dX4_toldInTime_40 : decode cX4_toldInTime 40 = .ok (.aload_n 0, 1) := by decide +kernel
theorem dX4_toldInTime_41 : decode cX4_toldInTime 41 = .ok (.getfield 24, 3) := by decide +kernel
theorem dX4_toldInTime_44 : decode cX4_toldInTime 44 = .ok (.iload_n 2, 1) := by decide +kernel
theorem dX4_toldInTime_45 : decode cX4_toldInTime 45 = .ok (.iaload, 1) := by decide +kernel
theorem dX4_toldInTime_46 : decode cX4_toldInTime 46 = .ok (.aload_n 0, 1) := by decide +kernel
theorem dX4_toldInTime_47 : decode cX4_toldInTime 47 = .ok (.getfield 21, 3) := by decide +kernel
theorem dX4_toldInTime_50 : decode cX4_toldInTime 50 = .ok (.iconst 1, 1) := by decide +kernel
theorem dX4_toldInTime_51 : decode cX4_toldInTime 51 = .ok (.iadd, 1) := by decide +kernel
theorem dX4_toldInTime_52 : decode cX4_toldInTime 52 = .ok (.if_icmp .gt 6, 3) := by decide +kernel
theorem dX4_toldInTime_55 : decode cX4_toldInTime 55 = .ok (.iinc 1 1, 3) := by decide +kernel
theorem dX4_toldInTime_58 : decode cX4_toldInTime 58 = .ok (.iinc 2 1, 3) := by decide +kernel
theorem dX4_toldInTime_61 : decode cX4_toldInTime 61 = .ok (.goto (-57), 3) := by decide +kernel
theorem dX4_toldInTime_64 : decode cX4_toldInTime 64 = .ok (.iload_n 1, 1) := by decide +kernel
theorem dX4_toldInTime_65 : decode cX4_toldInTime 65 = .ok (.ireturn, 1) := by decide +kernel
theorem dX5_init_0 : decode cX5_init 0 = .ok (.aload_n 0, 1) := by decide +kernel
theorem dX5_init_1 : decode cX5_init 1 = .ok (.invokespecial 3, 3) := by decide +kernel
theorem dX5_init_4 : decode cX5_init 4 = .ok (.aload_n 0, 1) := by decide +kernel
theorem dX5_init_5 : decode cX5_init 5 = .ok (.aload_n 1, 1) := by decide +kernel
theorem dX5_init_6 : decode cX5_init 6 = .ok (.putfield 9, 3) := by decide +kernel
theorem dX5_init_9 : decode cX5_init 9 = .ok (.aload_n 0, 1) := by decide +kernel
theorem dX5_init_10 : decode cX5_init 10 = .ok (.bipush 26, 2) := by decide +kernel
theorem dX5_init_12 : decode cX5_init 12 = .ok (.newarray .int, 2) := by decide +kernel
theorem dX5_init_14 : decode cX5_init 14 = .ok (.putfield 15, 3) := by decide +kernel
theorem dX5_init_17 : decode cX5_init 17 = .ok (.aload_n 0, 1) := by decide +kernel
theorem dX5_init_18 : decode cX5_init 18 = .ok (.sipush 200, 3) := by decide +kernel
theorem dX5_init_21 : decode cX5_init 21 = .ok (.newarray .int, 2) := by decide +kernel
theorem dX5_init_23 : decode cX5_init 23 = .ok (.putfield 19, 3) := by decide +kernel
theorem dX5_init_26 : decode cX5_init 26 = .ok (.return_, 1) := by decide +kernel
theorem dX5_setLetter_0 : decode cX5_setLetter 0 = .ok (.iload_n 1, 1) := by decide +kernel
theorem dX5_setLetter_1 : decode cX5_setLetter 1 = .ok (.bipush 97, 2) := by decide +kernel
theorem dX5_setLetter_3 : decode cX5_setLetter 3 = .ok (.if_icmp .lt 19, 3) := by decide +kernel
theorem dX5_setLetter_6 : decode cX5_setLetter 6 = .ok (.iload_n 1, 1) := by decide +kernel
theorem dX5_setLetter_7 : decode cX5_setLetter 7 = .ok (.bipush 122, 2) := by decide +kernel
theorem dX5_setLetter_9 : decode cX5_setLetter 9 = .ok (.if_icmp .gt 13, 3) := by decide +kernel
theorem dX5_setLetter_12 : decode cX5_setLetter 12 = .ok (.aload_n 0, 1) := by decide +kernel
theorem dX5_setLetter_13 : decode cX5_setLetter 13 = .ok (.getfield 15, 3) := by decide +kernel
theorem dX5_setLetter_16 : decode cX5_setLetter 16 = .ok (.iload_n 1, 1) := by decide +kernel
theorem dX5_setLetter_17 : decode cX5_setLetter 17 = .ok (.bipush 97, 2) := by decide +kernel
theorem dX5_setLetter_19 : decode cX5_setLetter 19 = .ok (.isub, 1) := by decide +kernel
theorem dX5_setLetter_20 : decode cX5_setLetter 20 = .ok (.iload_n 2, 1) := by decide +kernel
theorem dX5_setLetter_21 : decode cX5_setLetter 21 = .ok (.iastore, 1) := by decide +kernel
theorem dX5_setLetter_22 : decode cX5_setLetter 22 = .ok (.return_, 1) := by decide +kernel
theorem dX5_firstValue_0 : decode cX5_firstValue 0 = .ok (.iconst 0, 1) := by decide +kernel
theorem dX5_firstValue_1 : decode cX5_firstValue 1 = .ok (.istore 5, 2) := by decide +kernel
theorem dX5_firstValue_3 : decode cX5_firstValue 3 = .ok (.iload 5, 2) := by decide +kernel
theorem dX5_firstValue_5 : decode cX5_firstValue 5 = .ok (.aload_n 0, 1) := by decide +kernel
theorem dX5_firstValue_6 : decode cX5_firstValue 6 = .ok (.getfield 9, 3) := by decide +kernel
theorem dX5_firstValue_9 : decode cX5_firstValue 9 = .ok (.getfield 22, 3) := by decide +kernel
theorem dX5_firstValue_12 : decode cX5_firstValue 12 = .ok (.if_icmp .ge 77, 3) := by decide +kernel
theorem dX5_firstValue_15 : decode cX5_firstValue 15 = .ok (.iload 5, 2) := by decide +kernel
theorem dX5_firstValue_17 : decode cX5_firstValue 17 = .ok (.bipush 16, 2) := by decide +kernel
theorem dX5_firstValue_19 : decode cX5_firstValue 19 = .ok (.if_icmp .ge 70, 3) := by decide +kernel
theorem dX5_firstValue_22 : decode cX5_firstValue 22 = .ok (.aload_n 0, 1) := by decide +kernel
theorem dX5_firstValue_23 : decode cX5_firstValue 23 = .ok (.getfield 9, 3) := by decide +kernel
theorem dX5_firstValue_26 : decode cX5_firstValue 26 = .ok (.getfield 28, 3) := by decide +kernel
theorem dX5_firstValue_29 : decode cX5_firstValue 29 = .ok (.iload 5, 2) := by decide +kernel
theorem dX5_firstValue_31 : decode cX5_firstValue 31 = .ok (.iaload, 1) := by decide +kernel
theorem dX5_firstValue_32 : decode cX5_firstValue 32 = .ok (.iload_n 1, 1) := by decide +kernel
theorem dX5_firstValue_33 : decode cX5_firstValue 33 = .ok (.if_icmp .ne 50, 3) := by decide +kernel
theorem dX5_firstValue_36 : decode cX5_firstValue 36 = .ok (.aload_n 0, 1) := by decide +kernel
theorem dX5_firstValue_37 : decode cX5_firstValue 37 = .ok (.iload 5, 2) := by decide +kernel
theorem dX5_firstValue_39 : decode cX5_firstValue 39 = .ok (.invokevirtual 31, 3) := by decide +kernel
theorem dX5_firstValue_42 : decode cX5_firstValue 42 = .ok (.ifCond .eq 41, 3) := by decide +kernel
theorem dX5_firstValue_45 : decode cX5_firstValue 45 = .ok (.aload_n 0, 1) := by decide +kernel
theorem dX5_firstValue_46 : decode cX5_firstValue 46 = .ok (.aload_n 0, 1) := by decide +kernel
theorem dX5_firstValue_47 : decode cX5_firstValue 47 = .ok (.getfield 9, 3) := by decide +kernel
theorem dX5_firstValue_50 : decode cX5_firstValue 50 = .ok (.getfield 35, 3) := by decide +kernel
theorem dX5_firstValue_53 : decode cX5_firstValue 53 = .ok (.iload 5, 2) := by decide +kernel
theorem dX5_firstValue_55 : decode cX5_firstValue 55 = .ok (.iaload, 1) := by decide +kernel
theorem dX5_firstValue_56 : decode cX5_firstValue 56 = .ok (.aload_n 0, 1) := by decide +kernel
theorem dX5_firstValue_57 : decode cX5_firstValue 57 = .ok (.getfield 9, 3) := by decide +kernel
theorem dX5_firstValue_60 : decode cX5_firstValue 60 = .ok (.getfield 38, 3) := by decide +kernel
theorem dX5_firstValue_63 : decode cX5_firstValue 63 = .ok (.iload 5, 2) := by decide +kernel
theorem dX5_firstValue_65 : decode cX5_firstValue 65 = .ok (.iaload, 1) := by decide +kernel
theorem dX5_firstValue_66 : decode cX5_firstValue 66 = .ok (.invokevirtual 41, 3) := by decide +kernel
theorem dX5_firstValue_69 : decode cX5_firstValue 69 = .ok (.istore 6, 2) := by decide +kernel
theorem dX5_firstValue_71 : decode cX5_firstValue 71 = .ok (.iload_n 3, 1) := by decide +kernel
theorem dX5_firstValue_72 : decode cX5_firstValue 72 = .ok (.iload 4, 2) := by decide +kernel
theorem dX5_firstValue_74 : decode cX5_firstValue 74 = .ok (.iload 6, 2) := by decide +kernel
theorem dX5_firstValue_76 : decode cX5_firstValue 76 = .ok (.invokestatic 45, 3) := by decide +kernel
theorem dX5_firstValue_79 : decode cX5_firstValue 79 = .ok (.invokestatic 50, 3) := by decide +kernel
theorem dX5_firstValue_82 : decode cX5_firstValue 82 = .ok (.ireturn, 1) := by decide +kernel
theorem dX5_firstValue_83 : decode cX5_firstValue 83 = .ok (.iinc 5 1, 3) := by decide +kernel
theorem dX5_firstValue_86 : decode cX5_firstValue 86 = .ok (.goto (-83), 3) := by decide +kernel
theorem dX5_firstValue_89 : decode cX5_firstValue 89 = .ok (.iload_n 2, 1) := by decide +kernel
theorem dX5_firstValue_90 : decode cX5_firstValue 90 = .ok (.ireturn, 1) := by decide +kernel
theorem dX5_someHolds_0 : decode cX5_someHolds 0 = .ok (.iconst 0, 1) := by decide +kernel
theorem dX5_someHolds_1 : decode cX5_someHolds 1 = .ok (.istore_n 2, 1) := by decide +kernel
theorem dX5_someHolds_2 : decode cX5_someHolds 2 = .ok (.iload_n 2, 1) := by decide +kernel
theorem dX5_someHolds_3 : decode cX5_someHolds 3 = .ok (.aload_n 0, 1) := by decide +kernel
theorem dX5_someHolds_4 : decode cX5_someHolds 4 = .ok (.getfield 9, 3) := by decide +kernel
theorem dX5_someHolds_7 : decode cX5_someHolds 7 = .ok (.getfield 22, 3) := by decide +kernel
theorem dX5_someHolds_10 : decode cX5_someHolds 10 = .ok (.if_icmp .ge 38, 3) := by decide +kernel
theorem dX5_someHolds_13 : decode cX5_someHolds 13 = .ok (.iload_n 2, 1) := by decide +kernel
theorem dX5_someHolds_14 : decode cX5_someHolds 14 = .ok (.bipush 16, 2) := by decide +kernel
theorem dX5_someHolds_16 : decode cX5_someHolds 16 = .ok (.if_icmp .ge 32, 3) := by decide +kernel
theorem dX5_someHolds_19 : decode cX5_someHolds 19 = .ok (.aload_n 0, 1) := by decide +kernel
theorem dX5_someHolds_20 : decode cX5_someHolds 20 = .ok (.getfield 9, 3) := by decide +kernel
theorem dX5_someHolds_23 : decode cX5_someHolds 23 = .ok (.getfield 28, 3) := by decide +kernel
theorem dX5_someHolds_26 : decode cX5_someHolds 26 = .ok (.iload_n 2, 1) := by decide +kernel
theorem dX5_someHolds_27 : decode cX5_someHolds 27 = .ok (.iaload, 1) := by decide +kernel
theorem dX5_someHolds_28 : decode cX5_someHolds 28 = .ok (.iload_n 1, 1) := by decide +kernel
theorem dX5_someHolds_29 : decode cX5_someHolds 29 = .ok (.if_icmp .ne 13, 3) := by decide +kernel
theorem dX5_someHolds_32 : decode cX5_someHolds 32 = .ok (.aload_n 0, 1) := by decide +kernel
theorem dX5_someHolds_33 : decode cX5_someHolds 33 = .ok (.iload_n 2, 1) := by decide +kernel
theorem dX5_someHolds_34 : decode cX5_someHolds 34 = .ok (.invokevirtual 31, 3) := by decide +kernel
theorem dX5_someHolds_37 : decode cX5_someHolds 37 = .ok (.ifCond .eq 5, 3) := by decide +kernel
theorem dX5_someHolds_40 : decode cX5_someHolds 40 = .ok (.iconst 1, 1) := by decide +kernel
theorem dX5_someHolds_41 : decode cX5_someHolds 41 = .ok (.ireturn, 1) := by decide +kernel
theorem dX5_someHolds_42 : decode cX5_someHolds 42 = .ok (.iinc 2 1, 3) := by decide +kernel
theorem dX5_someHolds_45 : decode cX5_someHolds 45 = .ok (.goto (-43), 3) := by decide +kernel
theorem dX5_someHolds_48 : decode cX5_someHolds 48 = .ok (.iconst 0, 1) := by decide +kernel
theorem dX5_someHolds_49 : decode cX5_someHolds 49 = .ok (.ireturn, 1) := by decide +kernel
theorem dX5_allHold_0 : decode cX5_allHold 0 = .ok (.iconst 0, 1) := by decide +kernel
theorem dX5_allHold_1 : decode cX5_allHold 1 = .ok (.istore_n 2, 1) := by decide +kernel
theorem dX5_allHold_2 : decode cX5_allHold 2 = .ok (.iload_n 2, 1) := by decide +kernel
theorem dX5_allHold_3 : decode cX5_allHold 3 = .ok (.aload_n 0, 1) := by decide +kernel
theorem dX5_allHold_4 : decode cX5_allHold 4 = .ok (.getfield 9, 3) := by decide +kernel
theorem dX5_allHold_7 : decode cX5_allHold 7 = .ok (.getfield 22, 3) := by decide +kernel
theorem dX5_allHold_10 : decode cX5_allHold 10 = .ok (.if_icmp .ge 38, 3) := by decide +kernel
theorem dX5_allHold_13 : decode cX5_allHold 13 = .ok (.iload_n 2, 1) := by decide +kernel
theorem dX5_allHold_14 : decode cX5_allHold 14 = .ok (.bipush 16, 2) := by decide +kernel
theorem dX5_allHold_16 : decode cX5_allHold 16 = .ok (.if_icmp .ge 32, 3) := by decide +kernel
theorem dX5_allHold_19 : decode cX5_allHold 19 = .ok (.aload_n 0, 1) := by decide +kernel
theorem dX5_allHold_20 : decode cX5_allHold 20 = .ok (.getfield 9, 3) := by decide +kernel
theorem dX5_allHold_23 : decode cX5_allHold 23 = .ok (.getfield 28, 3) := by decide +kernel
theorem dX5_allHold_26 : decode cX5_allHold 26 = .ok (.iload_n 2, 1) := by decide +kernel
theorem dX5_allHold_27 : decode cX5_allHold 27 = .ok (.iaload, 1) := by decide +kernel
theorem dX5_allHold_28 : decode cX5_allHold 28 = .ok (.iload_n 1, 1) := by decide +kernel
theorem dX5_allHold_29 : decode cX5_allHold 29 = .ok (.if_icmp .ne 13, 3) := by decide +kernel
theorem dX5_allHold_32 : decode cX5_allHold 32 = .ok (.aload_n 0, 1) := by decide +kernel
theorem dX5_allHold_33 : decode cX5_allHold 33 = .ok (.iload_n 2, 1) := by decide +kernel
theorem dX5_allHold_34 : decode cX5_allHold 34 = .ok (.invokevirtual 31, 3) := by decide +kernel
theorem dX5_allHold_37 : decode cX5_allHold 37 = .ok (.ifCond .ne 5, 3) := by decide +kernel
theorem dX5_allHold_40 : decode cX5_allHold 40 = .ok (.iconst 0, 1) := by decide +kernel
theorem dX5_allHold_41 : decode cX5_allHold 41 = .ok (.ireturn, 1) := by decide +kernel
theorem dX5_allHold_42 : decode cX5_allHold 42 = .ok (.iinc 2 1, 3) := by decide +kernel
theorem dX5_allHold_45 : decode cX5_allHold 45 = .ok (.goto (-43), 3) := by decide +kernel
theorem dX5_allHold_48 : decode cX5_allHold 48 = .ok (.iconst 1, 1) := by decide +kernel
theorem dX5_allHold_49 : decode cX5_allHold 49 = .ok (.ireturn, 1) := by decide +kernel
theorem dX5_clauseHolds_0 : decode cX5_clauseHolds 0 = .ok (.iload_n 1, 1) := by decide +kernel
theorem dX5_clauseHolds_1 : decode cX5_clauseHolds 1 = .ok (.iconst 0, 1) := by decide +kernel
theorem dX5_clauseHolds_2 : decode cX5_clauseHolds 2 = .ok (.bipush 15, 2) := by decide +kernel
theorem dX5_clauseHolds_4 : decode cX5_clauseHolds 4 = .ok (.invokestatic 53, 3) := by decide +kernel
theorem dX5_clauseHolds_7 : decode cX5_clauseHolds 7 = .ok (.ifCond .eq 32, 3) := by decide +kernel
theorem dX5_clauseHolds_10 : decode cX5_clauseHolds 10 = .ok (.aload_n 0, 1) := by decide +kernel
theorem dX5_clauseHolds_11 : decode cX5_clauseHolds 11 = .ok (.aload_n 0, 1) := by decide +kernel
theorem dX5_clauseHolds_12 : decode cX5_clauseHolds 12 = .ok (.getfield 9, 3) := by decide +kernel
theorem dX5_clauseHolds_15 : decode cX5_clauseHolds 15 = .ok (.getfield 38, 3) := by decide +kernel
theorem dX5_clauseHolds_18 : decode cX5_clauseHolds 18 = .ok (.iload_n 1, 1) := by decide +kernel
theorem dX5_clauseHolds_19 : decode cX5_clauseHolds 19 = .ok (.iaload, 1) := by decide +kernel
theorem dX5_clauseHolds_20 : decode cX5_clauseHolds 20 = .ok (.aload_n 0, 1) := by decide +kernel
theorem dX5_clauseHolds_21 : decode cX5_clauseHolds 21 = .ok (.getfield 9, 3) := by decide +kernel
theorem dX5_clauseHolds_24 : decode cX5_clauseHolds 24 = .ok (.getfield 57, 3) := by decide +kernel
theorem dX5_clauseHolds_27 : decode cX5_clauseHolds 27 = .ok (.iload_n 1, 1) := by decide +kernel
theorem dX5_clauseHolds_28 : decode cX5_clauseHolds 28 = .ok (.iaload, 1) := by decide +kernel
theorem dX5_clauseHolds_29 : decode cX5_clauseHolds 29 = .ok (.invokevirtual 41, 3) := by decide +kernel
theorem dX5_clauseHolds_32 : decode cX5_clauseHolds 32 = .ok (.ifCond .eq 7, 3) := by decide +kernel
theorem dX5_clauseHolds_35 : decode cX5_clauseHolds 35 = .ok (.iconst 1, 1) := by decide +kernel
theorem dX5_clauseHolds_36 : decode cX5_clauseHolds 36 = .ok (.goto 4, 3) := by decide +kernel
theorem dX5_clauseHolds_39 : decode cX5_clauseHolds 39 = .ok (.iconst 0, 1) := by decide +kernel
theorem dX5_clauseHolds_40 : decode cX5_clauseHolds 40 = .ok (.ireturn, 1) := by decide +kernel
theorem dX5_result_0 : decode cX5_result 0 = .ok (.aload_n 0, 1) := by decide +kernel
theorem dX5_result_1 : decode cX5_result 1 = .ok (.iconst 0, 1) := by decide +kernel
theorem dX5_result_2 : decode cX5_result 2 = .ok (.putfield 60, 3) := by decide +kernel
theorem dX5_result_5 : decode cX5_result 5 = .ok (.aload_n 0, 1) := by decide +kernel
theorem dX5_result_6 : decode cX5_result 6 = .ok (.iconst 0, 1) := by decide +kernel
theorem dX5_result_7 : decode cX5_result 7 = .ok (.putfield 64, 3) := by decide +kernel
theorem dX5_result_10 : decode cX5_result 10 = .ok (.iconst 0, 1) := by decide +kernel
theorem dX5_result_11 : decode cX5_result 11 = .ok (.iload_n 1, 1) := by decide +kernel
theorem dX5_result_12 : decode cX5_result 12 = .ok (.invokestatic 50, 3) := by decide +kernel
theorem dX5_result_15 : decode cX5_result 15 = .ok (.istore_n 3, 1) := by decide +kernel
theorem dX5_result_16 : decode cX5_result 16 = .ok (.iload_n 3, 1) := by decide +kernel
theorem dX5_result_17 : decode cX5_result 17 = .ok (.iload_n 2, 1) := by decide +kernel
theorem dX5_result_18 : decode cX5_result 18 = .ok (.if_icmp .ge 124, 3) := by decide +kernel
theorem dX5_result_21 : decode cX5_result 21 = .ok (.iload_n 3, 1) := by decide +kernel
theorem dX5_result_22 : decode cX5_result 22 = .ok (.sipush 200, 3) := by decide +kernel
theorem dX5_result_25 : decode cX5_result 25 = .ok (.if_icmp .ge 117, 3) := by decide +kernel
theorem dX5_result_28 : decode cX5_result 28 = .ok (.aload_n 0, 1) := by decide +kernel
theorem dX5_result_29 : decode cX5_result 29 = .ok (.getfield 60, 3) := by decide +kernel
theorem dX5_result_32 : decode cX5_result 32 = .ok (.ifCond .ne 110, 3) := by decide +kernel
theorem dX5_result_35 : decode cX5_result 35 = .ok (.aload_n 0, 1) := by decide +kernel
theorem dX5_result_36 : decode cX5_result 36 = .ok (.getfield 9, 3) := by decide +kernel
theorem dX5_result_39 : decode cX5_result 39 = .ok (.getfield 67, 3) := by decide +kernel
theorem dX5_result_42 : decode cX5_result 42 = .ok (.iload_n 3, 1) := by decide +kernel
theorem dX5_result_43 : decode cX5_result 43 = .ok (.iaload, 1) := by decide +kernel
theorem dX5_result_44 : decode cX5_result 44 = .ok (.istore 4, 2) := by decide +kernel
theorem dX5_result_46 : decode cX5_result 46 = .ok (.aload_n 0, 1) := by decide +kernel
theorem dX5_result_47 : decode cX5_result 47 = .ok (.getfield 9, 3) := by decide +kernel
theorem dX5_result_50 : decode cX5_result 50 = .ok (.getfield 70, 3) := by decide +kernel
theorem dX5_result_53 : decode cX5_result 53 = .ok (.iload_n 3, 1) := by decide +kernel
theorem dX5_result_54 : decode cX5_result 54 = .ok (.iaload, 1) := by decide +kernel
theorem dX5_result_55 : decode cX5_result 55 = .ok (.istore 5, 2) := by decide +kernel
theorem dX5_result_57 : decode cX5_result 57 = .ok (.iload 4, 2) := by decide +kernel
theorem dX5_result_59 : decode cX5_result 59 = .ok (.bipush 124, 2) := by decide +kernel
theorem dX5_result_61 : decode cX5_result 61 = .ok (.if_icmp .eq 10, 3) := by decide +kernel
theorem dX5_result_64 : decode cX5_result 64 = .ok (.iload 4, 2) := by decide +kernel
theorem dX5_result_66 : decode cX5_result 66 = .ok (.bipush 38, 2) := by decide +kernel
theorem dX5_result_68 : decode cX5_result 68 = .ok (.if_icmp .ne 60, 3) := by decide +kernel
theorem dX5_result_71 : decode cX5_result 71 = .ok (.aload_n 0, 1) := by decide +kernel
theorem dX5_result_72 : decode cX5_result 72 = .ok (.invokevirtual 73, 3) := by decide +kernel
theorem dX5_result_75 : decode cX5_result 75 = .ok (.ifCond .eq 7, 3) := by decide +kernel
theorem dX5_result_78 : decode cX5_result 78 = .ok (.iconst 1, 1) := by decide +kernel
theorem dX5_result_79 : decode cX5_result 79 = .ok (.goto 4, 3) := by decide +kernel
theorem dX5_result_82 : decode cX5_result 82 = .ok (.iconst 0, 1) := by decide +kernel
theorem dX5_result_83 : decode cX5_result 83 = .ok (.istore 6, 2) := by decide +kernel
theorem dX5_result_85 : decode cX5_result 85 = .ok (.iload 6, 2) := by decide +kernel
theorem dX5_result_87 : decode cX5_result 87 = .ok (.iload 4, 2) := by decide +kernel
theorem dX5_result_89 : decode cX5_result 89 = .ok (.bipush 124, 2) := by decide +kernel
theorem dX5_result_91 : decode cX5_result 91 = .ok (.if_icmp .ne 7, 3) := by decide +kernel
theorem dX5_result_94 : decode cX5_result 94 = .ok (.iconst 1, 1) := by decide +kernel
theorem dX5_result_95 : decode cX5_result 95 = .ok (.goto 4, 3) := by decide +kernel
theorem dX5_result_98 : decode cX5_result 98 = .ok (.iconst 0, 1) := by decide +kernel
theorem dX5_result_99 : decode cX5_result 99 = .ok (.if_icmp .ne 26, 3) := by decide +kernel
theorem dX5_result_102 : decode cX5_result 102 = .ok (.aload_n 0, 1) := by decide +kernel
theorem dX5_result_103 : decode cX5_result 103 = .ok (.iload 6, 2) := by decide +kernel
theorem dX5_result_105 : decode cX5_result 105 = .ok (.ifCond .eq 7, 3) := by decide +kernel
theorem dX5_result_108 : decode cX5_result 108 = .ok (.iconst 1, 1) := by decide +kernel
theorem dX5_result_109 : decode cX5_result 109 = .ok (.goto 4, 3) := by decide +kernel
theorem dX5_result_112 : decode cX5_result 112 = .ok (.iconst 0, 1) := by decide +kernel
theorem dX5_result_113 : decode cX5_result 113 = .ok (.invokevirtual 77, 3) := by decide +kernel
theorem dX5_result_116 : decode cX5_result 116 = .ok (.iload_n 3, 1) := by decide +kernel
theorem dX5_result_117 : decode cX5_result 117 = .ok (.iload 5, 2) := by decide +kernel
theorem dX5_result_119 : decode cX5_result 119 = .ok (.iconst 1, 1) := by decide +kernel
theorem dX5_result_120 : decode cX5_result 120 = .ok (.isub, 1) := by decide +kernel
theorem dX5_result_121 : decode cX5_result 121 = .ok (.invokestatic 50, 3) := by decide +kernel
theorem dX5_result_124 : decode cX5_result 124 = .ok (.istore_n 3, 1) := by decide +kernel
theorem dX5_result_125 : decode cX5_result 125 = .ok (.goto 11, 3) := by decide +kernel
theorem dX5_result_128 : decode cX5_result 128 = .ok (.aload_n 0, 1) := by decide +kernel
theorem dX5_result_129 : decode cX5_result 129 = .ok (.iload 4, 2) := by decide +kernel
theorem dX5_result_131 : decode cX5_result 131 = .ok (.iload 5, 2) := by decide +kernel
theorem dX5_result_133 : decode cX5_result 133 = .ok (.invokevirtual 81, 3) := by decide +kernel
theorem dX5_result_136 : decode cX5_result 136 = .ok (.iinc 3 1, 3) := by decide +kernel
theorem dX5_result_139 : decode cX5_result 139 = .ok (.goto (-123), 3) := by decide +kernel
theorem dX5_result_142 : decode cX5_result 142 = .ok (.aload_n 0, 1) := by decide +kernel
theorem dX5_result_143 : decode cX5_result 143 = .ok (.getfield 60, 3) := by decide +kernel
theorem dX5_result_146 : decode cX5_result 146 = .ok (.ifCond .eq 7, 3) := by decide +kernel
theorem dX5_result_149 : decode cX5_result 149 = .ok (.iconst 0, 1) := by decide +kernel
theorem dX5_result_150 : decode cX5_result 150 = .ok (.goto 7, 3) := by decide +kernel
theorem dX5_result_153 : decode cX5_result 153 = .ok (.aload_n 0, 1) := by decide +kernel
theorem dX5_result_154 : decode cX5_result 154 = .ok (.invokevirtual 73, 3) := by decide +kernel
theorem dX5_result_157 : decode cX5_result 157 = .ok (.ireturn, 1) := by decide +kernel
theorem dX5_take_0 : decode cX5_take 0 = .ok (.iload_n 1, 1) := by decide +kernel
theorem dX5_take_1 : decode cX5_take 1 = .ok (.bipush 48, 2) := by decide +kernel
theorem dX5_take_3 : decode cX5_take 3 = .ok (.if_icmp .ne 11, 3) := by decide +kernel
theorem dX5_take_6 : decode cX5_take 6 = .ok (.aload_n 0, 1) := by decide +kernel
theorem dX5_take_7 : decode cX5_take 7 = .ok (.iload_n 2, 1) := by decide +kernel
theorem dX5_take_8 : decode cX5_take 8 = .ok (.invokevirtual 77, 3) := by decide +kernel
theorem dX5_take_11 : decode cX5_take 11 = .ok (.goto 87, 3) := by decide +kernel
theorem dX5_take_14 : decode cX5_take 14 = .ok (.iload_n 1, 1) := by decide +kernel
theorem dX5_take_15 : decode cX5_take 15 = .ok (.bipush 97, 2) := by decide +kernel
theorem dX5_take_17 : decode cX5_take 17 = .ok (.if_icmp .ne 33, 3) := by decide +kernel
theorem dX5_take_20 : decode cX5_take 20 = .ok (.aload_n 0, 1) := by decide +kernel
theorem dX5_take_21 : decode cX5_take 21 = .ok (.iload_n 2, 1) := by decide +kernel
theorem dX5_take_22 : decode cX5_take 22 = .ok (.ifCond .lt 21, 3) := by decide +kernel
theorem dX5_take_25 : decode cX5_take 25 = .ok (.iload_n 2, 1) := by decide +kernel
theorem dX5_take_26 : decode cX5_take 26 = .ok (.aload_n 0, 1) := by decide +kernel
theorem dX5_take_27 : decode cX5_take 27 = .ok (.getfield 15, 3) := by decide +kernel
theorem dX5_take_30 : decode cX5_take 30 = .ok (.arraylength, 1) := by decide +kernel
theorem dX5_take_31 : decode cX5_take 31 = .ok (.if_icmp .ge 12, 3) := by decide +kernel
theorem dX5_take_34 : decode cX5_take 34 = .ok (.aload_n 0, 1) := by decide +kernel
theorem dX5_take_35 : decode cX5_take 35 = .ok (.getfield 15, 3) := by decide +kernel
theorem dX5_take_38 : decode cX5_take 38 = .ok (.iload_n 2, 1) := by decide +kernel
theorem dX5_take_39 : decode cX5_take 39 = .ok (.iaload, 1) := by decide +kernel
theorem dX5_take_40 : decode cX5_take 40 = .ok (.goto 4, 3) := by decide +kernel
theorem dX5_take_43 : decode cX5_take 43 = .ok (.iconst 0, 1) := by decide +kernel
theorem dX5_take_44 : decode cX5_take 44 = .ok (.invokevirtual 77, 3) := by decide +kernel
theorem dX5_take_47 : decode cX5_take 47 = .ok (.goto 51, 3) := by decide +kernel
theorem dX5_take_50 : decode cX5_take 50 = .ok (.iload_n 1, 1) := by decide +kernel
theorem dX5_take_51 : decode cX5_take 51 = .ok (.bipush 33, 2) := by decide +kernel
theorem dX5_take_53 : decode cX5_take 53 = .ok (.if_icmp .ne 22, 3) := by decide +kernel
theorem dX5_take_56 : decode cX5_take 56 = .ok (.aload_n 0, 1) := by decide +kernel
theorem dX5_take_57 : decode cX5_take 57 = .ok (.aload_n 0, 1) := by decide +kernel
theorem dX5_take_58 : decode cX5_take 58 = .ok (.invokevirtual 73, 3) := by decide +kernel
theorem dX5_take_61 : decode cX5_take 61 = .ok (.ifCond .ne 7, 3) := by decide +kernel
theorem dX5_take_64 : decode cX5_take 64 = .ok (.iconst 1, 1) := by decide +kernel
theorem dX5_take_65 : decode cX5_take 65 = .ok (.goto 4, 3) := by decide +kernel
theorem dX5_take_68 : decode cX5_take 68 = .ok (.iconst 0, 1) := by decide +kernel
theorem dX5_take_69 : decode cX5_take 69 = .ok (.invokevirtual 77, 3) := by decide +kernel
theorem dX5_take_72 : decode cX5_take 72 = .ok (.goto 26, 3) := by decide +kernel
theorem dX5_take_75 : decode cX5_take 75 = .ok (.aload_n 0, 1) := by decide +kernel
theorem dX5_take_76 : decode cX5_take 76 = .ok (.invokevirtual 73, 3) := by decide +kernel
theorem dX5_take_79 : decode cX5_take 79 = .ok (.istore_n 3, 1) := by decide +kernel
theorem dX5_take_80 : decode cX5_take 80 = .ok (.aload_n 0, 1) := by decide +kernel
theorem dX5_take_81 : decode cX5_take 81 = .ok (.invokevirtual 73, 3) := by decide +kernel
theorem dX5_take_84 : decode cX5_take 84 = .ok (.istore 4, 2) := by decide +kernel
theorem dX5_take_86 : decode cX5_take 86 = .ok (.aload_n 0, 1) := by decide +kernel
theorem dX5_take_87 : decode cX5_take 87 = .ok (.aload_n 0, 1) := by decide +kernel
theorem dX5_take_88 : decode cX5_take 88 = .ok (.iload 4, 2) := by decide +kernel
theorem dX5_take_90 : decode cX5_take 90 = .ok (.iload_n 1, 1) := by decide +kernel
theorem dX5_take_91 : decode cX5_take 91 = .ok (.iload_n 3, 1) := by decide +kernel
theorem dX5_take_92 : decode cX5_take 92 = .ok (.invokevirtual 85, 3) := by decide +kernel
theorem dX5_take_95 : decode cX5_take 95 = .ok (.invokevirtual 77, 3) := by decide +kernel
theorem dX5_take_98 : decode cX5_take 98 = .ok (.return_, 1) := by decide +kernel
theorem dX5_joined_0 : decode cX5_joined 0 = .ok (.iload_n 2, 1) := by decide +kernel
theorem dX5_joined_1 : decode cX5_joined 1 = .ok (.lookupswitch 104 #[(42, 67), (43, 59), (45, 63), (60, 71), (61, 93), (62, 82)], 59) := by decide +kernel
theorem dX5_joined_60 : decode cX5_joined 60 = .ok (.iload_n 1, 1) := by decide +kernel
theorem dX5_joined_61 : decode cX5_joined 61 = .ok (.iload_n 3, 1) := by decide +kernel
theorem dX5_joined_62 : decode cX5_joined 62 = .ok (.iadd, 1) := by decide +kernel
theorem dX5_joined_63 : decode cX5_joined 63 = .ok (.ireturn, 1) := by decide +kernel
theorem dX5_joined_64 : decode cX5_joined 64 = .ok (.iload_n 1, 1) := by decide +kernel
theorem dX5_joined_65 : decode cX5_joined 65 = .ok (.iload_n 3, 1) := by decide +kernel
theorem dX5_joined_66 : decode cX5_joined 66 = .ok (.isub, 1) := by decide +kernel
theorem dX5_joined_67 : decode cX5_joined 67 = .ok (.ireturn, 1) := by decide +kernel
theorem dX5_joined_68 : decode cX5_joined 68 = .ok (.iload_n 1, 1) := by decide +kernel
theorem dX5_joined_69 : decode cX5_joined 69 = .ok (.iload_n 3, 1) := by decide +kernel
theorem dX5_joined_70 : decode cX5_joined 70 = .ok (.imul, 1) := by decide +kernel
theorem dX5_joined_71 : decode cX5_joined 71 = .ok (.ireturn, 1) := by decide +kernel
theorem dX5_joined_72 : decode cX5_joined 72 = .ok (.iload_n 1, 1) := by decide +kernel
theorem dX5_joined_73 : decode cX5_joined 73 = .ok (.iload_n 3, 1) := by decide +kernel
theorem dX5_joined_74 : decode cX5_joined 74 = .ok (.if_icmp .ge 7, 3) := by decide +kernel
theorem dX5_joined_77 : decode cX5_joined 77 = .ok (.iconst 1, 1) := by decide +kernel
theorem dX5_joined_78 : decode cX5_joined 78 = .ok (.goto 4, 3) := by decide +kernel
theorem dX5_joined_81 : decode cX5_joined 81 = .ok (.iconst 0, 1) := by decide +kernel
theorem dX5_joined_82 : decode cX5_joined 82 = .ok (.ireturn, 1) := by decide +kernel
theorem dX5_joined_83 : decode cX5_joined 83 = .ok (.iload_n 1, 1) := by decide +kernel
theorem dX5_joined_84 : decode cX5_joined 84 = .ok (.iload_n 3, 1) := by decide +kernel
theorem dX5_joined_85 : decode cX5_joined 85 = .ok (.if_icmp .le 7, 3) := by decide +kernel
theorem dX5_joined_88 : decode cX5_joined 88 = .ok (.iconst 1, 1) := by decide +kernel
theorem dX5_joined_89 : decode cX5_joined 89 = .ok (.goto 4, 3) := by decide +kernel
theorem dX5_joined_92 : decode cX5_joined 92 = .ok (.iconst 0, 1) := by decide +kernel
theorem dX5_joined_93 : decode cX5_joined 93 = .ok (.ireturn, 1) := by decide +kernel
theorem dX5_joined_94 : decode cX5_joined 94 = .ok (.iload_n 1, 1) := by decide +kernel
theorem dX5_joined_95 : decode cX5_joined 95 = .ok (.iload_n 3, 1) := by decide +kernel
theorem dX5_joined_96 : decode cX5_joined 96 = .ok (.if_icmp .ne 7, 3) := by decide +kernel
theorem dX5_joined_99 : decode cX5_joined 99 = .ok (.iconst 1, 1) := by decide +kernel
theorem dX5_joined_100 : decode cX5_joined 100 = .ok (.goto 4, 3) := by decide +kernel
theorem dX5_joined_103 : decode cX5_joined 103 = .ok (.iconst 0, 1) := by decide +kernel
theorem dX5_joined_104 : decode cX5_joined 104 = .ok (.ireturn, 1) := by decide +kernel
theorem dX5_joined_105 : decode cX5_joined 105 = .ok (.iload_n 3, 1) := by decide +kernel
theorem dX5_joined_106 : decode cX5_joined 106 = .ok (.ifCond .ne 10, 3) := by decide +kernel
theorem dX5_joined_109 : decode cX5_joined 109 = .ok (.aload_n 0, 1) := by decide +kernel
theorem dX5_joined_110 : decode cX5_joined 110 = .ok (.iconst 1, 1) := by decide +kernel
theorem dX5_joined_111 : decode cX5_joined 111 = .ok (.putfield 60, 3) := by decide +kernel
theorem dX5_joined_114 : decode cX5_joined 114 = .ok (.iconst 0, 1) := by decide +kernel
theorem dX5_joined_115 : decode cX5_joined 115 = .ok (.ireturn, 1) := by decide +kernel
theorem dX5_joined_116 : decode cX5_joined 116 = .ok (.iload_n 2, 1) := by decide +kernel
theorem dX5_joined_117 : decode cX5_joined 117 = .ok (.bipush 47, 2) := by decide +kernel
theorem dX5_joined_119 : decode cX5_joined 119 = .ok (.if_icmp .ne 9, 3) := by decide +kernel
theorem dX5_joined_122 : decode cX5_joined 122 = .ok (.iload_n 1, 1) := by decide +kernel
theorem dX5_joined_123 : decode cX5_joined 123 = .ok (.iload_n 3, 1) := by decide +kernel
theorem dX5_joined_124 : decode cX5_joined 124 = .ok (.idiv, 1) := by decide +kernel
theorem dX5_joined_125 : decode cX5_joined 125 = .ok (.goto 6, 3) := by decide +kernel
theorem dX5_joined_128 : decode cX5_joined 128 = .ok (.iload_n 1, 1) := by decide +kernel
theorem dX5_joined_129 : decode cX5_joined 129 = .ok (.iload_n 3, 1) := by decide +kernel
theorem dX5_joined_130 : decode cX5_joined 130 = .ok (.irem, 1) := by decide +kernel
theorem dX5_joined_131 : decode cX5_joined 131 = .ok (.ireturn, 1) := by decide +kernel
theorem dX5_push_0 : decode cX5_push 0 = .ok (.aload_n 0, 1) := by decide +kernel
theorem dX5_push_1 : decode cX5_push 1 = .ok (.getfield 64, 3) := by decide +kernel
theorem dX5_push_4 : decode cX5_push 4 = .ok (.sipush 200, 3) := by decide +kernel
theorem dX5_push_7 : decode cX5_push 7 = .ok (.if_icmp .ge 23, 3) := by decide +kernel
theorem dX5_push_10 : decode cX5_push 10 = .ok (.aload_n 0, 1) := by decide +kernel
theorem dX5_push_11 : decode cX5_push 11 = .ok (.getfield 19, 3) := by decide +kernel
theorem dX5_push_14 : decode cX5_push 14 = .ok (.aload_n 0, 1) := by decide +kernel
theorem dX5_push_15 : decode cX5_push 15 = .ok (.getfield 64, 3) := by decide +kernel
theorem dX5_push_18 : decode cX5_push 18 = .ok (.iload_n 1, 1) := by decide +kernel
theorem dX5_push_19 : decode cX5_push 19 = .ok (.iastore, 1) := by decide +kernel
theorem dX5_push_20 : decode cX5_push 20 = .ok (.aload_n 0, 1) := by decide +kernel
theorem dX5_push_21 : decode cX5_push 21 = .ok (.dup, 1) := by decide +kernel
theorem dX5_push_22 : decode cX5_push 22 = .ok (.getfield 64, 3) := by decide +kernel
theorem dX5_push_25 : decode cX5_push 25 = .ok (.iconst 1, 1) := by decide +kernel
theorem dX5_push_26 : decode cX5_push 26 = .ok (.iadd, 1) := by decide +kernel
theorem dX5_push_27 : decode cX5_push 27 = .ok (.putfield 64, 3) := by decide +kernel
theorem dX5_push_30 : decode cX5_push 30 = .ok (.return_, 1) := by decide +kernel
theorem dX5_pop_0 : decode cX5_pop 0 = .ok (.aload_n 0, 1) := by decide +kernel
theorem dX5_pop_1 : decode cX5_pop 1 = .ok (.getfield 64, 3) := by decide +kernel
theorem dX5_pop_4 : decode cX5_pop 4 = .ok (.ifCond .gt 5, 3) := by decide +kernel
theorem dX5_pop_7 : decode cX5_pop 7 = .ok (.iconst 0, 1) := by decide +kernel
theorem dX5_pop_8 : decode cX5_pop 8 = .ok (.ireturn, 1) := by decide +kernel
theorem dX5_pop_9 : decode cX5_pop 9 = .ok (.aload_n 0, 1) := by decide +kernel
theorem dX5_pop_10 : decode cX5_pop 10 = .ok (.dup, 1) := by decide +kernel
theorem dX5_pop_11 : decode cX5_pop 11 = .ok (.getfield 64, 3) := by decide +kernel
theorem dX5_pop_14 : decode cX5_pop 14 = .ok (.iconst 1, 1) := by decide +kernel
theorem dX5_pop_15 : decode cX5_pop 15 = .ok (.isub, 1) := by decide +kernel
theorem dX5_pop_16 : decode cX5_pop 16 = .ok (.putfield 64, 3) := by decide +kernel
theorem dX5_pop_19 : decode cX5_pop 19 = .ok (.aload_n 0, 1) := by decide +kernel
theorem dX5_pop_20 : decode cX5_pop 20 = .ok (.getfield 19, 3) := by decide +kernel
theorem dX5_pop_23 : decode cX5_pop 23 = .ok (.aload_n 0, 1) := by decide +kernel
theorem dX5_pop_24 : decode cX5_pop 24 = .ok (.getfield 64, 3) := by decide +kernel
theorem dX5_pop_27 : decode cX5_pop 27 = .ok (.iaload, 1) := by decide +kernel
theorem dX5_pop_28 : decode cX5_pop 28 = .ok (.ireturn, 1) := by decide +kernel
theorem dX6_init_0 : decode cX6_init 0 = .ok (.aload_n 0, 1) := by decide +kernel
theorem dX6_init_1 : decode cX6_init 1 = .ok (.invokespecial 3, 3) := by decide +kernel
theorem dX6_init_4 : decode cX6_init 4 = .ok (.aload_n 0, 1) := by decide +kernel
theorem dX6_init_5 : decode cX6_init 5 = .ok (.sipush 200, 3) := by decide +kernel
theorem dX6_init_8 : decode cX6_init 8 = .ok (.newarray .int, 2) := by decide +kernel
theorem dX6_init_10 : decode cX6_init 10 = .ok (.putfield 9, 3) := by decide +kernel
theorem dX6_init_13 : decode cX6_init 13 = .ok (.aload_n 0, 1) := by decide +kernel
theorem dX6_init_14 : decode cX6_init 14 = .ok (.sipush 200, 3) := by decide +kernel
theorem dX6_init_17 : decode cX6_init 17 = .ok (.newarray .int, 2) := by decide +kernel
theorem dX6_init_19 : decode cX6_init 19 = .ok (.putfield 15, 3) := by decide +kernel
theorem dX6_init_22 : decode cX6_init 22 = .ok (.aload_n 0, 1) := by decide +kernel
theorem dX6_init_23 : decode cX6_init 23 = .ok (.bipush 16, 2) := by decide +kernel
theorem dX6_init_25 : decode cX6_init 25 = .ok (.newarray .int, 2) := by decide +kernel
theorem dX6_init_27 : decode cX6_init 27 = .ok (.putfield 18, 3) := by decide +kernel
theorem dX6_init_30 : decode cX6_init 30 = .ok (.aload_n 0, 1) := by decide +kernel
theorem dX6_init_31 : decode cX6_init 31 = .ok (.bipush 16, 2) := by decide +kernel
theorem dX6_init_33 : decode cX6_init 33 = .ok (.newarray .int, 2) := by decide +kernel
theorem dX6_init_35 : decode cX6_init 35 = .ok (.putfield 21, 3) := by decide +kernel
theorem dX6_init_38 : decode cX6_init 38 = .ok (.aload_n 0, 1) := by decide +kernel
theorem dX6_init_39 : decode cX6_init 39 = .ok (.bipush 16, 2) := by decide +kernel
theorem dX6_init_41 : decode cX6_init 41 = .ok (.newarray .int, 2) := by decide +kernel
theorem dX6_init_43 : decode cX6_init 43 = .ok (.putfield 24, 3) := by decide +kernel
theorem dX6_init_46 : decode cX6_init 46 = .ok (.aload_n 0, 1) := by decide +kernel
theorem dX6_init_47 : decode cX6_init 47 = .ok (.bipush 16, 2) := by decide +kernel
theorem dX6_init_49 : decode cX6_init 49 = .ok (.newarray .int, 2) := by decide +kernel
theorem dX6_init_51 : decode cX6_init 51 = .ok (.putfield 27, 3) := by decide +kernel
theorem dX6_init_54 : decode cX6_init 54 = .ok (.aload_n 0, 1) := by decide +kernel
theorem dX6_init_55 : decode cX6_init 55 = .ok (.iconst 0, 1) := by decide +kernel
theorem dX6_init_56 : decode cX6_init 56 = .ok (.newarray .int, 2) := by decide +kernel
theorem dX6_init_58 : decode cX6_init 58 = .ok (.putfield 30, 3) := by decide +kernel
theorem dX6_init_61 : decode cX6_init 61 = .ok (.return_, 1) := by decide +kernel
theorem dX6_read_0 : decode cX6_read 0 = .ok (.aload_n 0, 1) := by decide +kernel
theorem dX6_read_1 : decode cX6_read 1 = .ok (.aload_n 1, 1) := by decide +kernel
theorem dX6_read_2 : decode cX6_read 2 = .ok (.putfield 30, 3) := by decide +kernel
theorem dX6_read_5 : decode cX6_read 5 = .ok (.aload_n 0, 1) := by decide +kernel
theorem dX6_read_6 : decode cX6_read 6 = .ok (.iload_n 2, 1) := by decide +kernel
theorem dX6_read_7 : decode cX6_read 7 = .ok (.aload_n 1, 1) := by decide +kernel
theorem dX6_read_8 : decode cX6_read 8 = .ok (.arraylength, 1) := by decide +kernel
theorem dX6_read_9 : decode cX6_read 9 = .ok (.invokestatic 33, 3) := by decide +kernel
theorem dX6_read_12 : decode cX6_read 12 = .ok (.putfield 39, 3) := by decide +kernel
theorem dX6_read_15 : decode cX6_read 15 = .ok (.aload_n 0, 1) := by decide +kernel
theorem dX6_read_16 : decode cX6_read 16 = .ok (.iconst 0, 1) := by decide +kernel
theorem dX6_read_17 : decode cX6_read 17 = .ok (.putfield 43, 3) := by decide +kernel
theorem dX6_read_20 : decode cX6_read 20 = .ok (.aload_n 0, 1) := by decide +kernel
theorem dX6_read_21 : decode cX6_read 21 = .ok (.iconst 0, 1) := by decide +kernel
theorem dX6_read_22 : decode cX6_read 22 = .ok (.putfield 46, 3) := by decide +kernel
theorem dX6_read_25 : decode cX6_read 25 = .ok (.aload_n 0, 1) := by decide +kernel
theorem dX6_read_26 : decode cX6_read 26 = .ok (.iconst 0, 1) := by decide +kernel
theorem dX6_read_27 : decode cX6_read 27 = .ok (.putfield 49, 3) := by decide +kernel
theorem dX6_read_30 : decode cX6_read 30 = .ok (.aload_n 0, 1) := by decide +kernel
theorem dX6_read_31 : decode cX6_read 31 = .ok (.iconst 0, 1) := by decide +kernel
theorem dX6_read_32 : decode cX6_read 32 = .ok (.putfield 52, 3) := by decide +kernel
theorem dX6_read_35 : decode cX6_read 35 = .ok (.aload_n 0, 1) := by decide +kernel
theorem dX6_read_36 : decode cX6_read 36 = .ok (.iconst 0, 1) := by decide +kernel
theorem dX6_read_37 : decode cX6_read 37 = .ok (.putfield 55, 3) := by decide +kernel
theorem dX6_read_40 : decode cX6_read 40 = .ok (.iconst 0, 1) := by decide +kernel
theorem dX6_read_41 : decode cX6_read 41 = .ok (.istore_n 3, 1) := by decide +kernel
theorem dX6_read_42 : decode cX6_read 42 = .ok (.iload_n 3, 1) := by decide +kernel
theorem dX6_read_43 : decode cX6_read 43 = .ok (.bipush 16, 2) := by decide +kernel
theorem dX6_read_45 : decode cX6_read 45 = .ok (.if_icmp .gt 42, 3) := by decide +kernel
theorem dX6_read_48 : decode cX6_read 48 = .ok (.aload_n 0, 1) := by decide +kernel
theorem dX6_read_49 : decode cX6_read 49 = .ok (.invokevirtual 58, 3) := by decide +kernel
theorem dX6_read_52 : decode cX6_read 52 = .ok (.ifCond .ne 5, 3) := by decide +kernel
theorem dX6_read_55 : decode cX6_read 55 = .ok (.iconst 0, 1) := by decide +kernel
theorem dX6_read_56 : decode cX6_read 56 = .ok (.ireturn, 1) := by decide +kernel
theorem dX6_read_57 : decode cX6_read 57 = .ok (.aload_n 0, 1) := by decide +kernel
theorem dX6_read_58 : decode cX6_read 58 = .ok (.getfield 43, 3) := by decide +kernel
theorem dX6_read_61 : decode cX6_read 61 = .ok (.aload_n 0, 1) := by decide +kernel
theorem dX6_read_62 : decode cX6_read 62 = .ok (.getfield 39, 3) := by decide +kernel
theorem dX6_read_65 : decode cX6_read 65 = .ok (.if_icmp .lt 5, 3) := by decide +kernel
theorem dX6_read_68 : decode cX6_read 68 = .ok (.iconst 1, 1) := by decide +kernel
theorem dX6_read_69 : decode cX6_read 69 = .ok (.ireturn, 1) := by decide +kernel
theorem dX6_read_70 : decode cX6_read 70 = .ok (.aload_n 0, 1) := by decide +kernel
theorem dX6_read_71 : decode cX6_read 71 = .ok (.bipush 59, 2) := by decide +kernel
theorem dX6_read_73 : decode cX6_read 73 = .ok (.invokevirtual 62, 3) := by decide +kernel
theorem dX6_read_76 : decode cX6_read 76 = .ok (.ifCond .ne 5, 3) := by decide +kernel
theorem dX6_read_79 : decode cX6_read 79 = .ok (.iconst 0, 1) := by decide +kernel
theorem dX6_read_80 : decode cX6_read 80 = .ok (.ireturn, 1) := by decide +kernel
theorem dX6_read_81 : decode cX6_read 81 = .ok (.iinc 3 1, 3) := by decide +kernel
theorem dX6_read_84 : decode cX6_read 84 = .ok (.goto (-42), 3) := by decide +kernel
theorem dX6_read_87 : decode cX6_read 87 = .ok (.iconst 0, 1) := by decide +kernel
theorem dX6_read_88 : decode cX6_read 88 = .ok (.ireturn, 1) := by decide +kernel
theorem dX6_here_0 : decode cX6_here 0 = .ok (.aload_n 0, 1) := by decide +kernel
theorem dX6_here_1 : decode cX6_here 1 = .ok (.getfield 43, 3) := by decide +kernel
theorem dX6_here_4 : decode cX6_here 4 = .ok (.ifCond .lt 38, 3) := by decide +kernel
theorem dX6_here_7 : decode cX6_here 7 = .ok (.aload_n 0, 1) := by decide +kernel
theorem dX6_here_8 : decode cX6_here 8 = .ok (.getfield 43, 3) := by decide +kernel
theorem dX6_here_11 : decode cX6_here 11 = .ok (.aload_n 0, 1) := by decide +kernel
theorem dX6_here_12 : decode cX6_here 12 = .ok (.getfield 39, 3) := by decide +kernel
theorem dX6_here_15 : decode cX6_here 15 = .ok (.if_icmp .ge 27, 3) := by decide +kernel
theorem dX6_here_18 : decode cX6_here 18 = .ok (.aload_n 0, 1) := by decide +kernel
theorem dX6_here_19 : decode cX6_here 19 = .ok (.getfield 43, 3) := by decide +kernel
theorem dX6_here_22 : decode cX6_here 22 = .ok (.aload_n 0, 1) := by decide +kernel
theorem dX6_here_23 : decode cX6_here 23 = .ok (.getfield 30, 3) := by decide +kernel
theorem dX6_here_26 : decode cX6_here 26 = .ok (.arraylength, 1) := by decide +kernel
theorem dX6_here_27 : decode cX6_here 27 = .ok (.if_icmp .ge 15, 3) := by decide +kernel
theorem dX6_here_30 : decode cX6_here 30 = .ok (.aload_n 0, 1) := by decide +kernel
theorem dX6_here_31 : decode cX6_here 31 = .ok (.getfield 30, 3) := by decide +kernel
theorem dX6_here_34 : decode cX6_here 34 = .ok (.aload_n 0, 1) := by decide +kernel
theorem dX6_here_35 : decode cX6_here 35 = .ok (.getfield 43, 3) := by decide +kernel
theorem dX6_here_38 : decode cX6_here 38 = .ok (.iaload, 1) := by decide +kernel
theorem dX6_here_39 : decode cX6_here 39 = .ok (.goto 4, 3) := by decide +kernel
theorem dX6_here_42 : decode cX6_here 42 = .ok (.iconst (-1), 1) := by decide +kernel
theorem dX6_here_43 : decode cX6_here 43 = .ok (.ireturn, 1) := by decide +kernel
theorem dX6_failed_0 : decode cX6_failed 0 = .ok (.aload_n 0, 1) := by decide +kernel
theorem dX6_failed_1 : decode cX6_failed 1 = .ok (.iload_n 1, 1) := by decide +kernel
theorem dX6_failed_2 : decode cX6_failed 2 = .ok (.putfield 52, 3) := by decide +kernel
theorem dX6_failed_5 : decode cX6_failed 5 = .ok (.aload_n 0, 1) := by decide +kernel
theorem dX6_failed_6 : decode cX6_failed 6 = .ok (.aload_n 0, 1) := by decide +kernel
theorem dX6_failed_7 : decode cX6_failed 7 = .ok (.getfield 43, 3) := by decide +kernel
theorem dX6_failed_10 : decode cX6_failed 10 = .ok (.putfield 55, 3) := by decide +kernel
theorem dX6_failed_13 : decode cX6_failed 13 = .ok (.iconst 0, 1) := by decide +kernel
theorem dX6_failed_14 : decode cX6_failed 14 = .ok (.ireturn, 1) := by decide +kernel
theorem dX6_readSign_0 : decode cX6_readSign 0 = .ok (.aload_n 0, 1) := by decide +kernel
theorem dX6_readSign_1 : decode cX6_readSign 1 = .ok (.invokevirtual 66, 3) := by decide +kernel
theorem dX6_readSign_4 : decode cX6_readSign 4 = .ok (.iload_n 1, 1) := by decide +kernel
theorem dX6_readSign_5 : decode cX6_readSign 5 = .ok (.if_icmp .eq 9, 3) := by decide +kernel
theorem dX6_readSign_8 : decode cX6_readSign 8 = .ok (.aload_n 0, 1) := by decide +kernel
theorem dX6_readSign_9 : decode cX6_readSign 9 = .ok (.iconst 1, 1) := by decide +kernel
theorem dX6_readSign_10 : decode cX6_readSign 10 = .ok (.invokevirtual 70, 3) := by decide +kernel
theorem dX6_readSign_13 : decode cX6_readSign 13 = .ok (.ireturn, 1) := by decide +kernel
theorem dX6_readSign_14 : decode cX6_readSign 14 = .ok (.aload_n 0, 1) := by decide +kernel
theorem dX6_readSign_15 : decode cX6_readSign 15 = .ok (.dup, 1) := by decide +kernel
theorem dX6_readSign_16 : decode cX6_readSign 16 = .ok (.getfield 43, 3) := by decide +kernel
theorem dX6_readSign_19 : decode cX6_readSign 19 = .ok (.iconst 1, 1) := by decide +kernel
theorem dX6_readSign_20 : decode cX6_readSign 20 = .ok (.iadd, 1) := by decide +kernel
theorem dX6_readSign_21 : decode cX6_readSign 21 = .ok (.putfield 43, 3) := by decide +kernel
theorem dX6_readSign_24 : decode cX6_readSign 24 = .ok (.iconst 1, 1) := by decide +kernel
theorem dX6_readSign_25 : decode cX6_readSign 25 = .ok (.ireturn, 1) := by decide +kernel
theorem dX6_addStep_0 : decode cX6_addStep 0 = .ok (.aload_n 0, 1) := by decide +kernel
theorem dX6_addStep_1 : decode cX6_addStep 1 = .ok (.getfield 46, 3) := by decide +kernel
theorem dX6_addStep_4 : decode cX6_addStep 4 = .ok (.sipush 200, 3) := by decide +kernel
theorem dX6_addStep_7 : decode cX6_addStep 7 = .ok (.if_icmp .ge 33, 3) := by decide +kernel
theorem dX6_addStep_10 : decode cX6_addStep 10 = .ok (.aload_n 0, 1) := by decide +kernel
theorem dX6_addStep_11 : decode cX6_addStep 11 = .ok (.getfield 9, 3) := by decide +kernel
theorem dX6_addStep_14 : decode cX6_addStep 14 = .ok (.aload_n 0, 1) := by decide +kernel
theorem dX6_addStep_15 : decode cX6_addStep 15 = .ok (.getfield 46, 3) := by decide +kernel
theorem dX6_addStep_18 : decode cX6_addStep 18 = .ok (.iload_n 1, 1) := by decide +kernel
theorem dX6_addStep_19 : decode cX6_addStep 19 = .ok (.iastore, 1) := by decide +kernel
theorem dX6_addStep_20 : decode cX6_addStep 20 = .ok (.aload_n 0, 1) := by decide +kernel
theorem dX6_addStep_21 : decode cX6_addStep 21 = .ok (.getfield 15, 3) := by decide +kernel
theorem dX6_addStep_24 : decode cX6_addStep 24 = .ok (.aload_n 0, 1) := by decide +kernel
theorem dX6_addStep_25 : decode cX6_addStep 25 = .ok (.getfield 46, 3) := by decide +kernel
theorem dX6_addStep_28 : decode cX6_addStep 28 = .ok (.iload_n 2, 1) := by decide +kernel
theorem dX6_addStep_29 : decode cX6_addStep 29 = .ok (.iastore, 1) := by decide +kernel
theorem dX6_addStep_30 : decode cX6_addStep 30 = .ok (.aload_n 0, 1) := by decide +kernel
theorem dX6_addStep_31 : decode cX6_addStep 31 = .ok (.dup, 1) := by decide +kernel
theorem dX6_addStep_32 : decode cX6_addStep 32 = .ok (.getfield 46, 3) := by decide +kernel
theorem dX6_addStep_35 : decode cX6_addStep 35 = .ok (.iconst 1, 1) := by decide +kernel
theorem dX6_addStep_36 : decode cX6_addStep 36 = .ok (.iadd, 1) := by decide +kernel
theorem dX6_addStep_37 : decode cX6_addStep 37 = .ok (.putfield 46, 3) := by decide +kernel
theorem dX6_addStep_40 : decode cX6_addStep 40 = .ok (.return_, 1) := by decide +kernel
theorem dX6_endJump_0 : decode cX6_endJump 0 = .ok (.iload_n 1, 1) := by decide +kernel
theorem dX6_endJump_1 : decode cX6_endJump 1 = .ok (.sipush 200, 3) := by decide +kernel
theorem dX6_endJump_4 : decode cX6_endJump 4 = .ok (.if_icmp .ge 13, 3) := by decide +kernel
theorem dX6_endJump_7 : decode cX6_endJump 7 = .ok (.aload_n 0, 1) := by decide +kernel
theorem dX6_endJump_8 : decode cX6_endJump 8 = .ok (.getfield 15, 3) := by decide +kernel
theorem dX6_endJump_11 : decode cX6_endJump 11 = .ok (.iload_n 1, 1) := by decide +kernel
theorem dX6_endJump_12 : decode cX6_endJump 12 = .ok (.aload_n 0, 1) := by decide +kernel
theorem dX6_endJump_13 : decode cX6_endJump 13 = .ok (.getfield 46, 3) := by decide +kernel
theorem dX6_endJump_16 : decode cX6_endJump 16 = .ok (.iastore, 1) := by decide +kernel
theorem dX6_endJump_17 : decode cX6_endJump 17 = .ok (.return_, 1) := by decide +kernel
theorem dX6_hasValue_0 : decode cX6_hasValue 0 = .ok (.iload_n 0, 1) := by decide +kernel
theorem dX6_hasValue_1 : decode cX6_hasValue 1 = .ok (.bipush 100, 2) := by decide +kernel
theorem dX6_hasValue_3 : decode cX6_hasValue 3 = .ok (.if_icmp .eq 21, 3) := by decide +kernel
theorem dX6_hasValue_6 : decode cX6_hasValue 6 = .ok (.iload_n 0, 1) := by decide +kernel
theorem dX6_hasValue_7 : decode cX6_hasValue 7 = .ok (.bipush 102, 2) := by decide +kernel
theorem dX6_hasValue_9 : decode cX6_hasValue 9 = .ok (.if_icmp .eq 15, 3) := by decide +kernel
theorem dX6_hasValue_12 : decode cX6_hasValue 12 = .ok (.iload_n 0, 1) := by decide +kernel
theorem dX6_hasValue_13 : decode cX6_hasValue 13 = .ok (.bipush 112, 2) := by decide +kernel
theorem dX6_hasValue_15 : decode cX6_hasValue 15 = .ok (.if_icmp .eq 9, 3) := by decide +kernel
theorem dX6_hasValue_18 : decode cX6_hasValue 18 = .ok (.iload_n 0, 1) := by decide +kernel
theorem dX6_hasValue_19 : decode cX6_hasValue 19 = .ok (.bipush 110, 2) := by decide +kernel
theorem dX6_hasValue_21 : decode cX6_hasValue 21 = .ok (.if_icmp .ne 7, 3) := by decide +kernel
theorem dX6_hasValue_24 : decode cX6_hasValue 24 = .ok (.iconst 1, 1) := by decide +kernel
theorem dX6_hasValue_25 : decode cX6_hasValue 25 = .ok (.goto 4, 3) := by decide +kernel
theorem dX6_hasValue_28 : decode cX6_hasValue 28 = .ok (.iconst 0, 1) := by decide +kernel
theorem dX6_hasValue_29 : decode cX6_hasValue 29 = .ok (.ireturn, 1) := by decide +kernel
theorem dX6_hasNoValue_0 : decode cX6_hasNoValue 0 = .ok (.iload_n 0, 1) := by decide +kernel
theorem dX6_hasNoValue_1 : decode cX6_hasNoValue 1 = .ok (.bipush 97, 2) := by decide +kernel
theorem dX6_hasNoValue_3 : decode cX6_hasNoValue 3 = .ok (.if_icmp .eq 21, 3) := by decide +kernel
theorem dX6_hasNoValue_6 : decode cX6_hasNoValue 6 = .ok (.iload_n 0, 1) := by decide +kernel
theorem dX6_hasNoValue_7 : decode cX6_hasNoValue 7 = .ok (.bipush 119, 2) := by decide +kernel
theorem dX6_hasNoValue_9 : decode cX6_hasNoValue 9 = .ok (.if_icmp .eq 15, 3) := by decide +kernel
theorem dX6_hasNoValue_12 : decode cX6_hasNoValue 12 = .ok (.iload_n 0, 1) := by decide +kernel
theorem dX6_hasNoValue_13 : decode cX6_hasNoValue 13 = .ok (.bipush 111, 2) := by decide +kernel
theorem dX6_hasNoValue_15 : decode cX6_hasNoValue 15 = .ok (.if_icmp .eq 9, 3) := by decide +kernel
theorem dX6_hasNoValue_18 : decode cX6_hasNoValue 18 = .ok (.iload_n 0, 1) := by decide +kernel
theorem dX6_hasNoValue_19 : decode cX6_hasNoValue 19 = .ok (.bipush 117, 2) := by decide +kernel
theorem dX6_hasNoValue_21 : decode cX6_hasNoValue 21 = .ok (.if_icmp .ne 7, 3) := by decide +kernel
theorem dX6_hasNoValue_24 : decode cX6_hasNoValue 24 = .ok (.iconst 1, 1) := by decide +kernel
theorem dX6_hasNoValue_25 : decode cX6_hasNoValue 25 = .ok (.goto 4, 3) := by decide +kernel
theorem dX6_hasNoValue_28 : decode cX6_hasNoValue 28 = .ok (.iconst 0, 1) := by decide +kernel
theorem dX6_hasNoValue_29 : decode cX6_hasNoValue 29 = .ok (.ireturn, 1) := by decide +kernel
theorem dX6_readClause_0 : decode cX6_readClause 0 = .ok (.aload_n 0, 1) := by decide +kernel
theorem dX6_readClause_1 : decode cX6_readClause 1 = .ok (.invokevirtual 66, 3) := by decide +kernel
theorem dX6_readClause_4 : decode cX6_readClause 4 = .ok (.istore_n 1, 1) := by decide +kernel
theorem dX6_readClause_5 : decode cX6_readClause 5 = .ok (.iload_n 1, 1) := by decide +kernel
theorem dX6_readClause_6 : decode cX6_readClause 6 = .ok (.invokestatic 73, 3) := by decide +kernel
theorem dX6_readClause_9 : decode cX6_readClause 9 = .ok (.ifCond .ne 16, 3) := by decide +kernel
theorem dX6_readClause_12 : decode cX6_readClause 12 = .ok (.iload_n 1, 1) := by decide +kernel
theorem dX6_readClause_13 : decode cX6_readClause 13 = .ok (.invokestatic 76, 3) := by decide +kernel
theorem dX6_readClause_16 : decode cX6_readClause 16 = .ok (.ifCond .ne 9, 3) := by decide +kernel
theorem dX6_readClause_19 : decode cX6_readClause 19 = .ok (.aload_n 0, 1) := by decide +kernel
theorem dX6_readClause_20 : decode cX6_readClause 20 = .ok (.iconst 1, 1) := by decide +kernel
theorem dX6_readClause_21 : decode cX6_readClause 21 = .ok (.invokevirtual 70, 3) := by decide +kernel
theorem dX6_readClause_24 : decode cX6_readClause 24 = .ok (.ireturn, 1) := by decide +kernel
theorem dX6_readClause_25 : decode cX6_readClause 25 = .ok (.aload_n 0, 1) := by decide +kernel
theorem dX6_readClause_26 : decode cX6_readClause 26 = .ok (.getfield 49, 3) := by decide +kernel
theorem dX6_readClause_29 : decode cX6_readClause 29 = .ok (.bipush 16, 2) := by decide +kernel
theorem dX6_readClause_31 : decode cX6_readClause 31 = .ok (.if_icmp .lt 9, 3) := by decide +kernel
theorem dX6_readClause_34 : decode cX6_readClause 34 = .ok (.aload_n 0, 1) := by decide +kernel
theorem dX6_readClause_35 : decode cX6_readClause 35 = .ok (.iconst 4, 1) := by decide +kernel
theorem dX6_readClause_36 : decode cX6_readClause 36 = .ok (.invokevirtual 70, 3) := by decide +kernel
theorem dX6_readClause_39 : decode cX6_readClause 39 = .ok (.ireturn, 1) := by decide +kernel
theorem dX6_readClause_40 : decode cX6_readClause 40 = .ok (.aload_n 0, 1) := by decide +kernel
theorem dX6_readClause_41 : decode cX6_readClause 41 = .ok (.getfield 49, 3) := by decide +kernel
theorem dX6_readClause_44 : decode cX6_readClause 44 = .ok (.istore_n 2, 1) := by decide +kernel
theorem dX6_readClause_45 : decode cX6_readClause 45 = .ok (.aload_n 0, 1) := by decide +kernel
theorem dX6_readClause_46 : decode cX6_readClause 46 = .ok (.dup, 1) := by decide +kernel
theorem dX6_readClause_47 : decode cX6_readClause 47 = .ok (.getfield 49, 3) := by decide +kernel
theorem dX6_readClause_50 : decode cX6_readClause 50 = .ok (.iconst 1, 1) := by decide +kernel
theorem dX6_readClause_51 : decode cX6_readClause 51 = .ok (.iadd, 1) := by decide +kernel
theorem dX6_readClause_52 : decode cX6_readClause 52 = .ok (.putfield 49, 3) := by decide +kernel
theorem dX6_readClause_55 : decode cX6_readClause 55 = .ok (.aload_n 0, 1) := by decide +kernel
theorem dX6_readClause_56 : decode cX6_readClause 56 = .ok (.dup, 1) := by decide +kernel
theorem dX6_readClause_57 : decode cX6_readClause 57 = .ok (.getfield 43, 3) := by decide +kernel
theorem dX6_readClause_60 : decode cX6_readClause 60 = .ok (.iconst 1, 1) := by decide +kernel
theorem dX6_readClause_61 : decode cX6_readClause 61 = .ok (.iadd, 1) := by decide +kernel
theorem dX6_readClause_62 : decode cX6_readClause 62 = .ok (.putfield 43, 3) := by decide +kernel
theorem dX6_readClause_65 : decode cX6_readClause 65 = .ok (.aload_n 0, 1) := by decide +kernel
theorem dX6_readClause_66 : decode cX6_readClause 66 = .ok (.getfield 18, 3) := by decide +kernel
theorem dX6_readClause_69 : decode cX6_readClause 69 = .ok (.iload_n 2, 1) := by decide +kernel
theorem dX6_readClause_70 : decode cX6_readClause 70 = .ok (.iload_n 1, 1) := by decide +kernel
theorem dX6_readClause_71 : decode cX6_readClause 71 = .ok (.iastore, 1) := by decide +kernel
theorem dX6_readClause_72 : decode cX6_readClause 72 = .ok (.aload_n 0, 1) := by decide +kernel
theorem dX6_readClause_73 : decode cX6_readClause 73 = .ok (.getfield 21, 3) := by decide +kernel
theorem dX6_readClause_76 : decode cX6_readClause 76 = .ok (.iload_n 2, 1) := by decide +kernel
theorem dX6_readClause_77 : decode cX6_readClause 77 = .ok (.aload_n 0, 1) := by decide +kernel
theorem dX6_readClause_78 : decode cX6_readClause 78 = .ok (.getfield 46, 3) := by decide +kernel
theorem dX6_readClause_81 : decode cX6_readClause 81 = .ok (.iastore, 1) := by decide +kernel
theorem dX6_readClause_82 : decode cX6_readClause 82 = .ok (.iload_n 1, 1) := by decide +kernel
theorem dX6_readClause_83 : decode cX6_readClause 83 = .ok (.invokestatic 73, 3) := by decide +kernel
theorem dX6_readClause_86 : decode cX6_readClause 86 = .ok (.ifCond .eq 13, 3) := by decide +kernel
theorem dX6_readClause_89 : decode cX6_readClause 89 = .ok (.aload_n 0, 1) := by decide +kernel
theorem dX6_readClause_90 : decode cX6_readClause 90 = .ok (.iconst 0, 1) := by decide +kernel
theorem dX6_readClause_91 : decode cX6_readClause 91 = .ok (.invokevirtual 79, 3) := by decide +kernel
theorem dX6_readClause_94 : decode cX6_readClause 94 = .ok (.ifCond .ne 5, 3) := by decide +kernel
theorem dX6_readClause_97 : decode cX6_readClause 97 = .ok (.iconst 0, 1) := by decide +kernel
theorem dX6_readClause_98 : decode cX6_readClause 98 = .ok (.ireturn, 1) := by decide +kernel
theorem dX6_readClause_99 : decode cX6_readClause 99 = .ok (.aload_n 0, 1) := by decide +kernel
theorem dX6_readClause_100 : decode cX6_readClause 100 = .ok (.getfield 24, 3) := by decide +kernel
theorem dX6_readClause_103 : decode cX6_readClause 103 = .ok (.iload_n 2, 1) := by decide +kernel
theorem dX6_readClause_104 : decode cX6_readClause 104 = .ok (.aload_n 0, 1) := by decide +kernel
theorem dX6_readClause_105 : decode cX6_readClause 105 = .ok (.getfield 46, 3) := by decide +kernel
theorem dX6_readClause_108 : decode cX6_readClause 108 = .ok (.iastore, 1) := by decide +kernel
theorem dX6_readClause_109 : decode cX6_readClause 109 = .ok (.aload_n 0, 1) := by decide +kernel
theorem dX6_readClause_110 : decode cX6_readClause 110 = .ok (.iconst 0, 1) := by decide +kernel
theorem dX6_readClause_111 : decode cX6_readClause 111 = .ok (.invokevirtual 82, 3) := by decide +kernel
theorem dX6_readClause_114 : decode cX6_readClause 114 = .ok (.istore_n 3, 1) := by decide +kernel
theorem dX6_readClause_115 : decode cX6_readClause 115 = .ok (.aload_n 0, 1) := by decide +kernel
theorem dX6_readClause_116 : decode cX6_readClause 116 = .ok (.getfield 27, 3) := by decide +kernel
theorem dX6_readClause_119 : decode cX6_readClause 119 = .ok (.iload_n 2, 1) := by decide +kernel
theorem dX6_readClause_120 : decode cX6_readClause 120 = .ok (.aload_n 0, 1) := by decide +kernel
theorem dX6_readClause_121 : decode cX6_readClause 121 = .ok (.getfield 46, 3) := by decide +kernel
theorem dX6_readClause_124 : decode cX6_readClause 124 = .ok (.iastore, 1) := by decide +kernel
theorem dX6_readClause_125 : decode cX6_readClause 125 = .ok (.iload_n 3, 1) := by decide +kernel
theorem dX6_readClause_126 : decode cX6_readClause 126 = .ok (.ireturn, 1) := by decide +kernel
theorem dX6_readInBrackets_0 : decode cX6_readInBrackets 0 = .ok (.aload_n 0, 1) := by decide +kernel
theorem dX6_readInBrackets_1 : decode cX6_readInBrackets 1 = .ok (.invokevirtual 66, 3) := by decide +kernel
theorem dX6_readInBrackets_4 : decode cX6_readInBrackets 4 = .ok (.bipush 40, 2) := by decide +kernel
theorem dX6_readInBrackets_6 : decode cX6_readInBrackets 6 = .ok (.if_icmp .ne 15, 3) := by decide +kernel
theorem dX6_readInBrackets_9 : decode cX6_readInBrackets 9 = .ok (.iload_n 1, 1) := by decide +kernel
theorem dX6_readInBrackets_10 : decode cX6_readInBrackets 10 = .ok (.bipush 6, 2) := by decide +kernel
theorem dX6_readInBrackets_12 : decode cX6_readInBrackets 12 = .ok (.if_icmp .lt 9, 3) := by decide +kernel
theorem dX6_readInBrackets_15 : decode cX6_readInBrackets 15 = .ok (.aload_n 0, 1) := by decide +kernel
theorem dX6_readInBrackets_16 : decode cX6_readInBrackets 16 = .ok (.iconst 5, 1) := by decide +kernel
theorem dX6_readInBrackets_17 : decode cX6_readInBrackets 17 = .ok (.invokevirtual 70, 3) := by decide +kernel
theorem dX6_readInBrackets_20 : decode cX6_readInBrackets 20 = .ok (.ireturn, 1) := by decide +kernel
theorem dX6_readInBrackets_21 : decode cX6_readInBrackets 21 = .ok (.aload_n 0, 1) := by decide +kernel
theorem dX6_readInBrackets_22 : decode cX6_readInBrackets 22 = .ok (.bipush 40, 2) := by decide +kernel
theorem dX6_readInBrackets_24 : decode cX6_readInBrackets 24 = .ok (.invokevirtual 62, 3) := by decide +kernel
theorem dX6_readInBrackets_27 : decode cX6_readInBrackets 27 = .ok (.ifCond .eq 26, 3) := by decide +kernel
theorem dX6_readInBrackets_30 : decode cX6_readInBrackets 30 = .ok (.aload_n 0, 1) := by decide +kernel
theorem dX6_readInBrackets_31 : decode cX6_readInBrackets 31 = .ok (.iload_n 1, 1) := by decide +kernel
theorem dX6_readInBrackets_32 : decode cX6_readInBrackets 32 = .ok (.iconst 1, 1) := by decide +kernel
theorem dX6_readInBrackets_33 : decode cX6_readInBrackets 33 = .ok (.iadd, 1) := by decide +kernel
theorem dX6_readInBrackets_34 : decode cX6_readInBrackets 34 = .ok (.invokevirtual 85, 3) := by decide +kernel
theorem dX6_readInBrackets_37 : decode cX6_readInBrackets 37 = .ok (.ifCond .eq 16, 3) := by decide +kernel
theorem dX6_readInBrackets_40 : decode cX6_readInBrackets 40 = .ok (.aload_n 0, 1) := by decide +kernel
theorem dX6_readInBrackets_41 : decode cX6_readInBrackets 41 = .ok (.bipush 41, 2) := by decide +kernel
theorem dX6_readInBrackets_43 : decode cX6_readInBrackets 43 = .ok (.invokevirtual 62, 3) := by decide +kernel
theorem dX6_readInBrackets_46 : decode cX6_readInBrackets 46 = .ok (.ifCond .eq 7, 3) := by decide +kernel
theorem dX6_readInBrackets_49 : decode cX6_readInBrackets 49 = .ok (.iconst 1, 1) := by decide +kernel
theorem dX6_readInBrackets_50 : decode cX6_readInBrackets 50 = .ok (.goto 4, 3) := by decide +kernel
theorem dX6_readInBrackets_53 : decode cX6_readInBrackets 53 = .ok (.iconst 0, 1) := by decide +kernel
theorem dX6_readInBrackets_54 : decode cX6_readInBrackets 54 = .ok (.ireturn, 1) := by decide +kernel
theorem dX6_readCondition_0 : decode cX6_readCondition 0 = .ok (.aload_n 0, 1) := by decide +kernel
theorem dX6_readCondition_1 : decode cX6_readCondition 1 = .ok (.iload_n 1, 1) := by decide +kernel
theorem dX6_readCondition_2 : decode cX6_readCondition 2 = .ok (.invokevirtual 88, 3) := by decide +kernel
theorem dX6_readCondition_5 : decode cX6_readCondition 5 = .ok (.istore_n 2, 1) := by decide +kernel
theorem dX6_readCondition_6 : decode cX6_readCondition 6 = .ok (.iconst 0, 1) := by decide +kernel
theorem dX6_readCondition_7 : decode cX6_readCondition 7 = .ok (.istore_n 3, 1) := by decide +kernel
theorem dX6_readCondition_8 : decode cX6_readCondition 8 = .ok (.iload_n 3, 1) := by decide +kernel
theorem dX6_readCondition_9 : decode cX6_readCondition 9 = .ok (.sipush 200, 3) := by decide +kernel
theorem dX6_readCondition_12 : decode cX6_readCondition 12 = .ok (.if_icmp .ge 57, 3) := by decide +kernel
theorem dX6_readCondition_15 : decode cX6_readCondition 15 = .ok (.iload_n 2, 1) := by decide +kernel
theorem dX6_readCondition_16 : decode cX6_readCondition 16 = .ok (.ifCond .eq 53, 3) := by decide +kernel
theorem dX6_readCondition_19 : decode cX6_readCondition 19 = .ok (.aload_n 0, 1) := by decide +kernel
theorem dX6_readCondition_20 : decode cX6_readCondition 20 = .ok (.invokevirtual 66, 3) := by decide +kernel
theorem dX6_readCondition_23 : decode cX6_readCondition 23 = .ok (.bipush 124, 2) := by decide +kernel
theorem dX6_readCondition_25 : decode cX6_readCondition 25 = .ok (.if_icmp .ne 44, 3) := by decide +kernel
theorem dX6_readCondition_28 : decode cX6_readCondition 28 = .ok (.aload_n 0, 1) := by decide +kernel
theorem dX6_readCondition_29 : decode cX6_readCondition 29 = .ok (.dup, 1) := by decide +kernel
theorem dX6_readCondition_30 : decode cX6_readCondition 30 = .ok (.getfield 43, 3) := by decide +kernel
theorem dX6_readCondition_33 : decode cX6_readCondition 33 = .ok (.iconst 1, 1) := by decide +kernel
theorem dX6_readCondition_34 : decode cX6_readCondition 34 = .ok (.iadd, 1) := by decide +kernel
theorem dX6_readCondition_35 : decode cX6_readCondition 35 = .ok (.putfield 43, 3) := by decide +kernel
theorem dX6_readCondition_38 : decode cX6_readCondition 38 = .ok (.aload_n 0, 1) := by decide +kernel
theorem dX6_readCondition_39 : decode cX6_readCondition 39 = .ok (.getfield 46, 3) := by decide +kernel
theorem dX6_readCondition_42 : decode cX6_readCondition 42 = .ok (.istore 4, 2) := by decide +kernel
theorem dX6_readCondition_44 : decode cX6_readCondition 44 = .ok (.aload_n 0, 1) := by decide +kernel
theorem dX6_readCondition_45 : decode cX6_readCondition 45 = .ok (.bipush 124, 2) := by decide +kernel
theorem dX6_readCondition_47 : decode cX6_readCondition 47 = .ok (.iconst 0, 1) := by decide +kernel
theorem dX6_readCondition_48 : decode cX6_readCondition 48 = .ok (.invokevirtual 91, 3) := by decide +kernel
theorem dX6_readCondition_51 : decode cX6_readCondition 51 = .ok (.aload_n 0, 1) := by decide +kernel
theorem dX6_readCondition_52 : decode cX6_readCondition 52 = .ok (.iload_n 1, 1) := by decide +kernel
theorem dX6_readCondition_53 : decode cX6_readCondition 53 = .ok (.invokevirtual 88, 3) := by decide +kernel
theorem dX6_readCondition_56 : decode cX6_readCondition 56 = .ok (.istore_n 2, 1) := by decide +kernel
theorem dX6_readCondition_57 : decode cX6_readCondition 57 = .ok (.aload_n 0, 1) := by decide +kernel
theorem dX6_readCondition_58 : decode cX6_readCondition 58 = .ok (.iload 4, 2) := by decide +kernel
theorem dX6_readCondition_60 : decode cX6_readCondition 60 = .ok (.invokevirtual 95, 3) := by decide +kernel
theorem dX6_readCondition_63 : decode cX6_readCondition 63 = .ok (.iinc 3 1, 3) := by decide +kernel
theorem dX6_readCondition_66 : decode cX6_readCondition 66 = .ok (.goto (-58), 3) := by decide +kernel
theorem dX6_readCondition_69 : decode cX6_readCondition 69 = .ok (.iload_n 2, 1) := by decide +kernel
theorem dX6_readCondition_70 : decode cX6_readCondition 70 = .ok (.ireturn, 1) := by decide +kernel
theorem dX6_readPart_0 : decode cX6_readPart 0 = .ok (.aload_n 0, 1) := by decide +kernel
theorem dX6_readPart_1 : decode cX6_readPart 1 = .ok (.iload_n 1, 1) := by decide +kernel
theorem dX6_readPart_2 : decode cX6_readPart 2 = .ok (.invokevirtual 99, 3) := by decide +kernel
theorem dX6_readPart_5 : decode cX6_readPart 5 = .ok (.istore_n 2, 1) := by decide +kernel
theorem dX6_readPart_6 : decode cX6_readPart 6 = .ok (.iconst 0, 1) := by decide +kernel
theorem dX6_readPart_7 : decode cX6_readPart 7 = .ok (.istore_n 3, 1) := by decide +kernel
theorem dX6_readPart_8 : decode cX6_readPart 8 = .ok (.iload_n 3, 1) := by decide +kernel
theorem dX6_readPart_9 : decode cX6_readPart 9 = .ok (.sipush 200, 3) := by decide +kernel
theorem dX6_readPart_12 : decode cX6_readPart 12 = .ok (.if_icmp .ge 57, 3) := by decide +kernel
theorem dX6_readPart_15 : decode cX6_readPart 15 = .ok (.iload_n 2, 1) := by decide +kernel
theorem dX6_readPart_16 : decode cX6_readPart 16 = .ok (.ifCond .eq 53, 3) := by decide +kernel
theorem dX6_readPart_19 : decode cX6_readPart 19 = .ok (.aload_n 0, 1) := by decide +kernel
theorem dX6_readPart_20 : decode cX6_readPart 20 = .ok (.invokevirtual 66, 3) := by decide +kernel
theorem dX6_readPart_23 : decode cX6_readPart 23 = .ok (.bipush 38, 2) := by decide +kernel
theorem dX6_readPart_25 : decode cX6_readPart 25 = .ok (.if_icmp .ne 44, 3) := by decide +kernel
theorem dX6_readPart_28 : decode cX6_readPart 28 = .ok (.aload_n 0, 1) := by decide +kernel
theorem dX6_readPart_29 : decode cX6_readPart 29 = .ok (.dup, 1) := by decide +kernel
theorem dX6_readPart_30 : decode cX6_readPart 30 = .ok (.getfield 43, 3) := by decide +kernel
theorem dX6_readPart_33 : decode cX6_readPart 33 = .ok (.iconst 1, 1) := by decide +kernel
theorem dX6_readPart_34 : decode cX6_readPart 34 = .ok (.iadd, 1) := by decide +kernel
theorem dX6_readPart_35 : decode cX6_readPart 35 = .ok (.putfield 43, 3) := by decide +kernel
theorem dX6_readPart_38 : decode cX6_readPart 38 = .ok (.aload_n 0, 1) := by decide +kernel
theorem dX6_readPart_39 : decode cX6_readPart 39 = .ok (.getfield 46, 3) := by decide +kernel
theorem dX6_readPart_42 : decode cX6_readPart 42 = .ok (.istore 4, 2) := by decide +kernel
theorem dX6_readPart_44 : decode cX6_readPart 44 = .ok (.aload_n 0, 1) := by decide +kernel
theorem dX6_readPart_45 : decode cX6_readPart 45 = .ok (.bipush 38, 2) := by decide +kernel
theorem dX6_readPart_47 : decode cX6_readPart 47 = .ok (.iconst 0, 1) := by decide +kernel
theorem dX6_readPart_48 : decode cX6_readPart 48 = .ok (.invokevirtual 91, 3) := by decide +kernel
theorem dX6_readPart_51 : decode cX6_readPart 51 = .ok (.aload_n 0, 1) := by decide +kernel
theorem dX6_readPart_52 : decode cX6_readPart 52 = .ok (.iload_n 1, 1) := by decide +kernel
theorem dX6_readPart_53 : decode cX6_readPart 53 = .ok (.invokevirtual 99, 3) := by decide +kernel
theorem dX6_readPart_56 : decode cX6_readPart 56 = .ok (.istore_n 2, 1) := by decide +kernel
theorem dX6_readPart_57 : decode cX6_readPart 57 = .ok (.aload_n 0, 1) := by decide +kernel
theorem dX6_readPart_58 : decode cX6_readPart 58 = .ok (.iload 4, 2) := by decide +kernel
theorem dX6_readPart_60 : decode cX6_readPart 60 = .ok (.invokevirtual 95, 3) := by decide +kernel
theorem dX6_readPart_63 : decode cX6_readPart 63 = .ok (.iinc 3 1, 3) := by decide +kernel
theorem dX6_readPart_66 : decode cX6_readPart 66 = .ok (.goto (-58), 3) := by decide +kernel
theorem dX6_readPart_69 : decode cX6_readPart 69 = .ok (.iload_n 2, 1) := by decide +kernel
theorem dX6_readPart_70 : decode cX6_readPart 70 = .ok (.ireturn, 1) := by decide +kernel
theorem dX6_readPiece_0 : decode cX6_readPiece 0 = .ok (.aload_n 0, 1) := by decide +kernel
theorem dX6_readPiece_1 : decode cX6_readPiece 1 = .ok (.invokevirtual 66, 3) := by decide +kernel
theorem dX6_readPiece_4 : decode cX6_readPiece 4 = .ok (.istore_n 2, 1) := by decide +kernel
theorem dX6_readPiece_5 : decode cX6_readPiece 5 = .ok (.iload_n 2, 1) := by decide +kernel
theorem dX6_readPiece_6 : decode cX6_readPiece 6 = .ok (.bipush 40, 2) := by decide +kernel
theorem dX6_readPiece_8 : decode cX6_readPiece 8 = .ok (.if_icmp .ne 9, 3) := by decide +kernel
theorem dX6_readPiece_11 : decode cX6_readPiece 11 = .ok (.aload_n 0, 1) := by decide +kernel
theorem dX6_readPiece_12 : decode cX6_readPiece 12 = .ok (.iload_n 1, 1) := by decide +kernel
theorem dX6_readPiece_13 : decode cX6_readPiece 13 = .ok (.invokevirtual 82, 3) := by decide +kernel
theorem dX6_readPiece_16 : decode cX6_readPiece 16 = .ok (.ireturn, 1) := by decide +kernel
theorem dX6_readPiece_17 : decode cX6_readPiece 17 = .ok (.iload_n 2, 1) := by decide +kernel
theorem dX6_readPiece_18 : decode cX6_readPiece 18 = .ok (.bipush 33, 2) := by decide +kernel
theorem dX6_readPiece_20 : decode cX6_readPiece 20 = .ok (.if_icmp .eq 9, 3) := by decide +kernel
theorem dX6_readPiece_23 : decode cX6_readPiece 23 = .ok (.aload_n 0, 1) := by decide +kernel
theorem dX6_readPiece_24 : decode cX6_readPiece 24 = .ok (.iload_n 1, 1) := by decide +kernel
theorem dX6_readPiece_25 : decode cX6_readPiece 25 = .ok (.invokevirtual 102, 3) := by decide +kernel
theorem dX6_readPiece_28 : decode cX6_readPiece 28 = .ok (.ireturn, 1) := by decide +kernel
theorem dX6_readPiece_29 : decode cX6_readPiece 29 = .ok (.iload_n 1, 1) := by decide +kernel
theorem dX6_readPiece_30 : decode cX6_readPiece 30 = .ok (.bipush 6, 2) := by decide +kernel
theorem dX6_readPiece_32 : decode cX6_readPiece 32 = .ok (.if_icmp .lt 9, 3) := by decide +kernel
theorem dX6_readPiece_35 : decode cX6_readPiece 35 = .ok (.aload_n 0, 1) := by decide +kernel
theorem dX6_readPiece_36 : decode cX6_readPiece 36 = .ok (.iconst 5, 1) := by decide +kernel
theorem dX6_readPiece_37 : decode cX6_readPiece 37 = .ok (.invokevirtual 70, 3) := by decide +kernel
theorem dX6_readPiece_40 : decode cX6_readPiece 40 = .ok (.ireturn, 1) := by decide +kernel
theorem dX6_readPiece_41 : decode cX6_readPiece 41 = .ok (.aload_n 0, 1) := by decide +kernel
theorem dX6_readPiece_42 : decode cX6_readPiece 42 = .ok (.dup, 1) := by decide +kernel
theorem dX6_readPiece_43 : decode cX6_readPiece 43 = .ok (.getfield 43, 3) := by decide +kernel
theorem dX6_readPiece_46 : decode cX6_readPiece 46 = .ok (.iconst 1, 1) := by decide +kernel
theorem dX6_readPiece_47 : decode cX6_readPiece 47 = .ok (.iadd, 1) := by decide +kernel
theorem dX6_readPiece_48 : decode cX6_readPiece 48 = .ok (.putfield 43, 3) := by decide +kernel
theorem dX6_readPiece_51 : decode cX6_readPiece 51 = .ok (.aload_n 0, 1) := by decide +kernel
theorem dX6_readPiece_52 : decode cX6_readPiece 52 = .ok (.iload_n 1, 1) := by decide +kernel
theorem dX6_readPiece_53 : decode cX6_readPiece 53 = .ok (.iconst 1, 1) := by decide +kernel
theorem dX6_readPiece_54 : decode cX6_readPiece 54 = .ok (.iadd, 1) := by decide +kernel
theorem dX6_readPiece_55 : decode cX6_readPiece 55 = .ok (.invokevirtual 99, 3) := by decide +kernel
theorem dX6_readPiece_58 : decode cX6_readPiece 58 = .ok (.istore_n 3, 1) := by decide +kernel
theorem dX6_readPiece_59 : decode cX6_readPiece 59 = .ok (.aload_n 0, 1) := by decide +kernel
theorem dX6_readPiece_60 : decode cX6_readPiece 60 = .ok (.bipush 33, 2) := by decide +kernel
theorem dX6_readPiece_62 : decode cX6_readPiece 62 = .ok (.iconst 0, 1) := by decide +kernel
theorem dX6_readPiece_63 : decode cX6_readPiece 63 = .ok (.invokevirtual 91, 3) := by decide +kernel
theorem dX6_readPiece_66 : decode cX6_readPiece 66 = .ok (.iload_n 3, 1) := by decide +kernel
theorem dX6_readPiece_67 : decode cX6_readPiece 67 = .ok (.ireturn, 1) := by decide +kernel
theorem dX6_readComparison_0 : decode cX6_readComparison 0 = .ok (.aload_n 0, 1) := by decide +kernel
theorem dX6_readComparison_1 : decode cX6_readComparison 1 = .ok (.iload_n 1, 1) := by decide +kernel
theorem dX6_readComparison_2 : decode cX6_readComparison 2 = .ok (.invokevirtual 79, 3) := by decide +kernel
theorem dX6_readComparison_5 : decode cX6_readComparison 5 = .ok (.ifCond .ne 5, 3) := by decide +kernel
theorem dX6_readComparison_8 : decode cX6_readComparison 8 = .ok (.iconst 0, 1) := by decide +kernel
theorem dX6_readComparison_9 : decode cX6_readComparison 9 = .ok (.ireturn, 1) := by decide +kernel
theorem dX6_readComparison_10 : decode cX6_readComparison 10 = .ok (.aload_n 0, 1) := by decide +kernel
theorem dX6_readComparison_11 : decode cX6_readComparison 11 = .ok (.invokevirtual 66, 3) := by decide +kernel
theorem dX6_readComparison_14 : decode cX6_readComparison 14 = .ok (.istore_n 2, 1) := by decide +kernel
theorem dX6_readComparison_15 : decode cX6_readComparison 15 = .ok (.iload_n 2, 1) := by decide +kernel
theorem dX6_readComparison_16 : decode cX6_readComparison 16 = .ok (.bipush 60, 2) := by decide +kernel
theorem dX6_readComparison_18 : decode cX6_readComparison 18 = .ok (.if_icmp .eq 21, 3) := by decide +kernel
theorem dX6_readComparison_21 : decode cX6_readComparison 21 = .ok (.iload_n 2, 1) := by decide +kernel
theorem dX6_readComparison_22 : decode cX6_readComparison 22 = .ok (.bipush 62, 2) := by decide +kernel
theorem dX6_readComparison_24 : decode cX6_readComparison 24 = .ok (.if_icmp .eq 15, 3) := by decide +kernel
theorem dX6_readComparison_27 : decode cX6_readComparison 27 = .ok (.iload_n 2, 1) := by decide +kernel
theorem dX6_readComparison_28 : decode cX6_readComparison 28 = .ok (.bipush 61, 2) := by decide +kernel
theorem dX6_readComparison_30 : decode cX6_readComparison 30 = .ok (.if_icmp .eq 9, 3) := by decide +kernel
theorem dX6_readComparison_33 : decode cX6_readComparison 33 = .ok (.aload_n 0, 1) := by decide +kernel
theorem dX6_readComparison_34 : decode cX6_readComparison 34 = .ok (.iconst 1, 1) := by decide +kernel
theorem dX6_readComparison_35 : decode cX6_readComparison 35 = .ok (.invokevirtual 70, 3) := by decide +kernel
theorem dX6_readComparison_38 : decode cX6_readComparison 38 = .ok (.ireturn, 1) := by decide +kernel
theorem dX6_readComparison_39 : decode cX6_readComparison 39 = .ok (.aload_n 0, 1) := by decide +kernel
theorem dX6_readComparison_40 : decode cX6_readComparison 40 = .ok (.dup, 1) := by decide +kernel
theorem dX6_readComparison_41 : decode cX6_readComparison 41 = .ok (.getfield 43, 3) := by decide +kernel
theorem dX6_readComparison_44 : decode cX6_readComparison 44 = .ok (.iconst 1, 1) := by decide +kernel
theorem dX6_readComparison_45 : decode cX6_readComparison 45 = .ok (.iadd, 1) := by decide +kernel
theorem dX6_readComparison_46 : decode cX6_readComparison 46 = .ok (.putfield 43, 3) := by decide +kernel
theorem dX6_readComparison_49 : decode cX6_readComparison 49 = .ok (.aload_n 0, 1) := by decide +kernel
theorem dX6_readComparison_50 : decode cX6_readComparison 50 = .ok (.iload_n 1, 1) := by decide +kernel
theorem dX6_readComparison_51 : decode cX6_readComparison 51 = .ok (.invokevirtual 79, 3) := by decide +kernel
theorem dX6_readComparison_54 : decode cX6_readComparison 54 = .ok (.istore_n 3, 1) := by decide +kernel
theorem dX6_readComparison_55 : decode cX6_readComparison 55 = .ok (.aload_n 0, 1) := by decide +kernel
theorem dX6_readComparison_56 : decode cX6_readComparison 56 = .ok (.iload_n 2, 1) := by decide +kernel
theorem dX6_readComparison_57 : decode cX6_readComparison 57 = .ok (.iconst 0, 1) := by decide +kernel
theorem dX6_readComparison_58 : decode cX6_readComparison 58 = .ok (.invokevirtual 91, 3) := by decide +kernel
theorem dX6_readComparison_61 : decode cX6_readComparison 61 = .ok (.iload_n 3, 1) := by decide +kernel
theorem dX6_readComparison_62 : decode cX6_readComparison 62 = .ok (.ireturn, 1) := by decide +kernel
theorem dX6_readExpression_0 : decode cX6_readExpression 0 = .ok (.aload_n 0, 1) := by decide +kernel
theorem dX6_readExpression_1 : decode cX6_readExpression 1 = .ok (.iload_n 1, 1) := by decide +kernel
theorem dX6_readExpression_2 : decode cX6_readExpression 2 = .ok (.invokevirtual 105, 3) := by decide +kernel
theorem dX6_readExpression_5 : decode cX6_readExpression 5 = .ok (.istore_n 2, 1) := by decide +kernel
theorem dX6_readExpression_6 : decode cX6_readExpression 6 = .ok (.iconst 0, 1) := by decide +kernel
theorem dX6_readExpression_7 : decode cX6_readExpression 7 = .ok (.istore_n 3, 1) := by decide +kernel
theorem dX6_readExpression_8 : decode cX6_readExpression 8 = .ok (.iload_n 3, 1) := by decide +kernel
theorem dX6_readExpression_9 : decode cX6_readExpression 9 = .ok (.sipush 200, 3) := by decide +kernel
theorem dX6_readExpression_12 : decode cX6_readExpression 12 = .ok (.if_icmp .ge 60, 3) := by decide +kernel
theorem dX6_readExpression_15 : decode cX6_readExpression 15 = .ok (.iload_n 2, 1) := by decide +kernel
theorem dX6_readExpression_16 : decode cX6_readExpression 16 = .ok (.ifCond .eq 56, 3) := by decide +kernel
theorem dX6_readExpression_19 : decode cX6_readExpression 19 = .ok (.aload_n 0, 1) := by decide +kernel
theorem dX6_readExpression_20 : decode cX6_readExpression 20 = .ok (.invokevirtual 66, 3) := by decide +kernel
theorem dX6_readExpression_23 : decode cX6_readExpression 23 = .ok (.bipush 43, 2) := by decide +kernel
theorem dX6_readExpression_25 : decode cX6_readExpression 25 = .ok (.if_icmp .eq 12, 3) := by decide +kernel
theorem dX6_readExpression_28 : decode cX6_readExpression 28 = .ok (.aload_n 0, 1) := by decide +kernel
theorem dX6_readExpression_29 : decode cX6_readExpression 29 = .ok (.invokevirtual 66, 3) := by decide +kernel
theorem dX6_readExpression_32 : decode cX6_readExpression 32 = .ok (.bipush 45, 2) := by decide +kernel
theorem dX6_readExpression_34 : decode cX6_readExpression 34 = .ok (.if_icmp .ne 38, 3) := by decide +kernel
theorem dX6_readExpression_37 : decode cX6_readExpression 37 = .ok (.aload_n 0, 1) := by decide +kernel
theorem dX6_readExpression_38 : decode cX6_readExpression 38 = .ok (.invokevirtual 66, 3) := by decide +kernel
theorem dX6_readExpression_41 : decode cX6_readExpression 41 = .ok (.istore 4, 2) := by decide +kernel
theorem dX6_readExpression_43 : decode cX6_readExpression 43 = .ok (.aload_n 0, 1) := by decide +kernel
theorem dX6_readExpression_44 : decode cX6_readExpression 44 = .ok (.dup, 1) := by decide +kernel
theorem dX6_readExpression_45 : decode cX6_readExpression 45 = .ok (.getfield 43, 3) := by decide +kernel
theorem dX6_readExpression_48 : decode cX6_readExpression 48 = .ok (.iconst 1, 1) := by decide +kernel
