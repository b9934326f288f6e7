theorem dX11_washedAhead_52 : decode cX11_washedAhead 52 = .ok (.getfield 203, 3) := by decide +kernel
theorem dX11_washedAhead_55 : decode cX11_washedAhead 55 = .ok (.invokevirtual 347, 3) := by decide +kernel
theorem dX11_washedAhead_58 : decode cX11_washedAhead 58 = .ok (.istore 6, 2) := by decide +kernel
theorem dX11_washedAhead_60 : decode cX11_washedAhead 60 = .ok (.iload 6, 2) := by decide +kernel
theorem dX11_washedAhead_62 : decode cX11_washedAhead 62 = .ok (.iload_n 2, 1) := by decide +kernel
theorem dX11_washedAhead_63 : decode cX11_washedAhead 63 = .ok (.if_icmp .gt 18, 3) := by decide +kernel
theorem dX11_washedAhead_66 : decode cX11_washedAhead 66 = .ok (.iload 6, 2) := by decide +kernel
theorem dX11_washedAhead_68 : decode cX11_washedAhead 68 = .ok (.iload_n 2, 1) := by decide +kernel
theorem dX11_washedAhead_69 : decode cX11_washedAhead 69 = .ok (.if_icmp .ne 15, 3) := by decide +kernel
theorem dX11_washedAhead_72 : decode cX11_washedAhead 72 = .ok (.iload 4, 2) := by decide +kernel
theorem dX11_washedAhead_74 : decode cX11_washedAhead 74 = .ok (.aload_n 1, 1) := by decide +kernel
theorem dX11_washedAhead_75 : decode cX11_washedAhead 75 = .ok (.getfield 138, 3) := by decide +kernel
theorem dX11_washedAhead_78 : decode cX11_washedAhead 78 = .ok (.if_icmp .ge 6, 3) := by decide +kernel
theorem dX11_washedAhead_81 : decode cX11_washedAhead 81 = .ok (.iinc 3 1, 3) := by decide +kernel
theorem dX11_washedAhead_84 : decode cX11_washedAhead 84 = .ok (.iinc 4 1, 3) := by decide +kernel
theorem dX11_washedAhead_87 : decode cX11_washedAhead 87 = .ok (.goto (-73), 3) := by decide +kernel
theorem dX11_washedAhead_90 : decode cX11_washedAhead 90 = .ok (.iload_n 3, 1) := by decide +kernel
theorem dX11_washedAhead_91 : decode cX11_washedAhead 91 = .ok (.ireturn, 1) := by decide +kernel
theorem dX11_weekOf_0 : decode cX11_weekOf 0 = .ok (.iload_n 0, 1) := by decide +kernel
theorem dX11_weekOf_1 : decode cX11_weekOf 1 = .ok (.sipush 365, 3) := by decide +kernel
theorem dX11_weekOf_4 : decode cX11_weekOf 4 = .ok (.irem, 1) := by decide +kernel
theorem dX11_weekOf_5 : decode cX11_weekOf 5 = .ok (.bipush 7, 2) := by decide +kernel
theorem dX11_weekOf_7 : decode cX11_weekOf 7 = .ok (.idiv, 1) := by decide +kernel
theorem dX11_weekOf_8 : decode cX11_weekOf 8 = .ok (.ireturn, 1) := by decide +kernel
theorem dX11_begunInThreeWeeks_0 : decode cX11_begunInThreeWeeks 0 = .ok (.iconst 0, 1) := by decide +kernel
theorem dX11_begunInThreeWeeks_1 : decode cX11_begunInThreeWeeks 1 = .ok (.istore_n 2, 1) := by decide +kernel
theorem dX11_begunInThreeWeeks_2 : decode cX11_begunInThreeWeeks 2 = .ok (.iconst 0, 1) := by decide +kernel
theorem dX11_begunInThreeWeeks_3 : decode cX11_begunInThreeWeeks 3 = .ok (.istore_n 3, 1) := by decide +kernel
theorem dX11_begunInThreeWeeks_4 : decode cX11_begunInThreeWeeks 4 = .ok (.iload_n 3, 1) := by decide +kernel
theorem dX11_begunInThreeWeeks_5 : decode cX11_begunInThreeWeeks 5 = .ok (.iconst 3, 1) := by decide +kernel
theorem dX11_begunInThreeWeeks_6 : decode cX11_begunInThreeWeeks 6 = .ok (.if_icmp .ge 23, 3) := by decide +kernel
theorem dX11_begunInThreeWeeks_9 : decode cX11_begunInThreeWeeks 9 = .ok (.iload_n 2, 1) := by decide +kernel
theorem dX11_begunInThreeWeeks_10 : decode cX11_begunInThreeWeeks 10 = .ok (.aload_n 0, 1) := by decide +kernel
theorem dX11_begunInThreeWeeks_11 : decode cX11_begunInThreeWeeks 11 = .ok (.getfield 22, 3) := by decide +kernel
theorem dX11_begunInThreeWeeks_14 : decode cX11_begunInThreeWeeks 14 = .ok (.iload_n 1, 1) := by decide +kernel
theorem dX11_begunInThreeWeeks_15 : decode cX11_begunInThreeWeeks 15 = .ok (.iload_n 3, 1) := by decide +kernel
theorem dX11_begunInThreeWeeks_16 : decode cX11_begunInThreeWeeks 16 = .ok (.iadd, 1) := by decide +kernel
theorem dX11_begunInThreeWeeks_17 : decode cX11_begunInThreeWeeks 17 = .ok (.bipush 53, 2) := by decide +kernel
theorem dX11_begunInThreeWeeks_19 : decode cX11_begunInThreeWeeks 19 = .ok (.irem, 1) := by decide +kernel
theorem dX11_begunInThreeWeeks_20 : decode cX11_begunInThreeWeeks 20 = .ok (.iaload, 1) := by decide +kernel
theorem dX11_begunInThreeWeeks_21 : decode cX11_begunInThreeWeeks 21 = .ok (.iadd, 1) := by decide +kernel
theorem dX11_begunInThreeWeeks_22 : decode cX11_begunInThreeWeeks 22 = .ok (.istore_n 2, 1) := by decide +kernel
theorem dX11_begunInThreeWeeks_23 : decode cX11_begunInThreeWeeks 23 = .ok (.iinc 3 1, 3) := by decide +kernel
theorem dX11_begunInThreeWeeks_26 : decode cX11_begunInThreeWeeks 26 = .ok (.goto (-22), 3) := by decide +kernel
theorem dX11_begunInThreeWeeks_29 : decode cX11_begunInThreeWeeks 29 = .ok (.iload_n 2, 1) := by decide +kernel
theorem dX11_begunInThreeWeeks_30 : decode cX11_begunInThreeWeeks 30 = .ok (.ireturn, 1) := by decide +kernel
theorem dX11_isUnwanted_0 : decode cX11_isUnwanted 0 = .ok (.aload_n 1, 1) := by decide +kernel
theorem dX11_isUnwanted_1 : decode cX11_isUnwanted 1 = .ok (.getfield 264, 3) := by decide +kernel
theorem dX11_isUnwanted_4 : decode cX11_isUnwanted 4 = .ok (.ifCond .ne 31, 3) := by decide +kernel
theorem dX11_isUnwanted_7 : decode cX11_isUnwanted 7 = .ok (.aload_n 0, 1) := by decide +kernel
theorem dX11_isUnwanted_8 : decode cX11_isUnwanted 8 = .ok (.getfield 95, 3) := by decide +kernel
theorem dX11_isUnwanted_11 : decode cX11_isUnwanted 11 = .ok (.aload_n 1, 1) := by decide +kernel
theorem dX11_isUnwanted_12 : decode cX11_isUnwanted 12 = .ok (.getfield 515, 3) := by decide +kernel
theorem dX11_isUnwanted_15 : decode cX11_isUnwanted 15 = .ok (.isub, 1) := by decide +kernel
theorem dX11_isUnwanted_16 : decode cX11_isUnwanted 16 = .ok (.iload_n 2, 1) := by decide +kernel
theorem dX11_isUnwanted_17 : decode cX11_isUnwanted 17 = .ok (.if_icmp .lt 18, 3) := by decide +kernel
theorem dX11_isUnwanted_20 : decode cX11_isUnwanted 20 = .ok (.aload_n 0, 1) := by decide +kernel
theorem dX11_isUnwanted_21 : decode cX11_isUnwanted 21 = .ok (.aload_n 1, 1) := by decide +kernel
theorem dX11_isUnwanted_22 : decode cX11_isUnwanted 22 = .ok (.getfield 203, 3) := by decide +kernel
theorem dX11_isUnwanted_25 : decode cX11_isUnwanted 25 = .ok (.invokevirtual 347, 3) := by decide +kernel
theorem dX11_isUnwanted_28 : decode cX11_isUnwanted 28 = .ok (.ifCond .ne 7, 3) := by decide +kernel
theorem dX11_isUnwanted_31 : decode cX11_isUnwanted 31 = .ok (.iconst 1, 1) := by decide +kernel
theorem dX11_isUnwanted_32 : decode cX11_isUnwanted 32 = .ok (.goto 4, 3) := by decide +kernel
theorem dX11_isUnwanted_35 : decode cX11_isUnwanted 35 = .ok (.iconst 0, 1) := by decide +kernel
theorem dX11_isUnwanted_36 : decode cX11_isUnwanted 36 = .ok (.ireturn, 1) := by decide +kernel
theorem dX11_reasonUnwanted_0 : decode cX11_reasonUnwanted 0 = .ok (.aload_n 0, 1) := by decide +kernel
theorem dX11_reasonUnwanted_1 : decode cX11_reasonUnwanted 1 = .ok (.aload_n 1, 1) := by decide +kernel
theorem dX11_reasonUnwanted_2 : decode cX11_reasonUnwanted 2 = .ok (.invokevirtual 280, 3) := by decide +kernel
theorem dX11_reasonUnwanted_5 : decode cX11_reasonUnwanted 5 = .ok (.ifCond .eq 5, 3) := by decide +kernel
theorem dX11_reasonUnwanted_8 : decode cX11_reasonUnwanted 8 = .ok (.iconst 1, 1) := by decide +kernel
theorem dX11_reasonUnwanted_9 : decode cX11_reasonUnwanted 9 = .ok (.ireturn, 1) := by decide +kernel
theorem dX11_reasonUnwanted_10 : decode cX11_reasonUnwanted 10 = .ok (.aload_n 1, 1) := by decide +kernel
theorem dX11_reasonUnwanted_11 : decode cX11_reasonUnwanted 11 = .ok (.getfield 260, 3) := by decide +kernel
theorem dX11_reasonUnwanted_14 : decode cX11_reasonUnwanted 14 = .ok (.ifCond .eq 5, 3) := by decide +kernel
theorem dX11_reasonUnwanted_17 : decode cX11_reasonUnwanted 17 = .ok (.iconst 2, 1) := by decide +kernel
theorem dX11_reasonUnwanted_18 : decode cX11_reasonUnwanted 18 = .ok (.ireturn, 1) := by decide +kernel
theorem dX11_reasonUnwanted_19 : decode cX11_reasonUnwanted 19 = .ok (.aload_n 1, 1) := by decide +kernel
theorem dX11_reasonUnwanted_20 : decode cX11_reasonUnwanted 20 = .ok (.invokevirtual 265, 3) := by decide +kernel
theorem dX11_reasonUnwanted_23 : decode cX11_reasonUnwanted 23 = .ok (.ifCond .le 5, 3) := by decide +kernel
theorem dX11_reasonUnwanted_26 : decode cX11_reasonUnwanted 26 = .ok (.iconst 3, 1) := by decide +kernel
theorem dX11_reasonUnwanted_27 : decode cX11_reasonUnwanted 27 = .ok (.ireturn, 1) := by decide +kernel
theorem dX11_reasonUnwanted_28 : decode cX11_reasonUnwanted 28 = .ok (.aload_n 1, 1) := by decide +kernel
theorem dX11_reasonUnwanted_29 : decode cX11_reasonUnwanted 29 = .ok (.invokevirtual 483, 3) := by decide +kernel
theorem dX11_reasonUnwanted_32 : decode cX11_reasonUnwanted 32 = .ok (.ifCond .eq 5, 3) := by decide +kernel
theorem dX11_reasonUnwanted_35 : decode cX11_reasonUnwanted 35 = .ok (.iconst 4, 1) := by decide +kernel
theorem dX11_reasonUnwanted_36 : decode cX11_reasonUnwanted 36 = .ok (.ireturn, 1) := by decide +kernel
theorem dX11_reasonUnwanted_37 : decode cX11_reasonUnwanted 37 = .ok (.aload_n 1, 1) := by decide +kernel
theorem dX11_reasonUnwanted_38 : decode cX11_reasonUnwanted 38 = .ok (.getfield 203, 3) := by decide +kernel
theorem dX11_reasonUnwanted_41 : decode cX11_reasonUnwanted 41 = .ok (.getfield 468, 3) := by decide +kernel
theorem dX11_reasonUnwanted_44 : decode cX11_reasonUnwanted 44 = .ok (.bipush 7, 2) := by decide +kernel
theorem dX11_reasonUnwanted_46 : decode cX11_reasonUnwanted 46 = .ok (.if_icmp .lt 5, 3) := by decide +kernel
theorem dX11_reasonUnwanted_49 : decode cX11_reasonUnwanted 49 = .ok (.iconst 5, 1) := by decide +kernel
theorem dX11_reasonUnwanted_50 : decode cX11_reasonUnwanted 50 = .ok (.ireturn, 1) := by decide +kernel
theorem dX11_reasonUnwanted_51 : decode cX11_reasonUnwanted 51 = .ok (.aload_n 0, 1) := by decide +kernel
theorem dX11_reasonUnwanted_52 : decode cX11_reasonUnwanted 52 = .ok (.aload_n 1, 1) := by decide +kernel
theorem dX11_reasonUnwanted_53 : decode cX11_reasonUnwanted 53 = .ok (.getfield 203, 3) := by decide +kernel
theorem dX11_reasonUnwanted_56 : decode cX11_reasonUnwanted 56 = .ok (.invokevirtual 518, 3) := by decide +kernel
theorem dX11_reasonUnwanted_59 : decode cX11_reasonUnwanted 59 = .ok (.ifCond .eq 6, 3) := by decide +kernel
theorem dX11_reasonUnwanted_62 : decode cX11_reasonUnwanted 62 = .ok (.bipush 6, 2) := by decide +kernel
theorem dX11_reasonUnwanted_64 : decode cX11_reasonUnwanted 64 = .ok (.ireturn, 1) := by decide +kernel
theorem dX11_reasonUnwanted_65 : decode cX11_reasonUnwanted 65 = .ok (.aload_n 0, 1) := by decide +kernel
theorem dX11_reasonUnwanted_66 : decode cX11_reasonUnwanted 66 = .ok (.aload_n 1, 1) := by decide +kernel
theorem dX11_reasonUnwanted_67 : decode cX11_reasonUnwanted 67 = .ok (.invokevirtual 521, 3) := by decide +kernel
theorem dX11_reasonUnwanted_70 : decode cX11_reasonUnwanted 70 = .ok (.ifCond .eq 8, 3) := by decide +kernel
theorem dX11_reasonUnwanted_73 : decode cX11_reasonUnwanted 73 = .ok (.bipush 7, 2) := by decide +kernel
theorem dX11_reasonUnwanted_75 : decode cX11_reasonUnwanted 75 = .ok (.goto 5, 3) := by decide +kernel
theorem dX11_reasonUnwanted_78 : decode cX11_reasonUnwanted 78 = .ok (.bipush 8, 2) := by decide +kernel
theorem dX11_reasonUnwanted_80 : decode cX11_reasonUnwanted 80 = .ok (.ireturn, 1) := by decide +kernel
theorem dX11_isTooOldForAll_0 : decode cX11_isTooOldForAll 0 = .ok (.iconst 0, 1) := by decide +kernel
theorem dX11_isTooOldForAll_1 : decode cX11_isTooOldForAll 1 = .ok (.istore_n 2, 1) := by decide +kernel
theorem dX11_isTooOldForAll_2 : decode cX11_isTooOldForAll 2 = .ok (.iload_n 2, 1) := by decide +kernel
theorem dX11_isTooOldForAll_3 : decode cX11_isTooOldForAll 3 = .ok (.aload_n 0, 1) := by decide +kernel
theorem dX11_isTooOldForAll_4 : decode cX11_isTooOldForAll 4 = .ok (.getfield 38, 3) := by decide +kernel
theorem dX11_isTooOldForAll_7 : decode cX11_isTooOldForAll 7 = .ok (.invokevirtual 103, 3) := by decide +kernel
theorem dX11_isTooOldForAll_10 : decode cX11_isTooOldForAll 10 = .ok (.if_icmp .ge 32, 3) := by decide +kernel
theorem dX11_isTooOldForAll_13 : decode cX11_isTooOldForAll 13 = .ok (.aload_n 1, 1) := by decide +kernel
theorem dX11_isTooOldForAll_14 : decode cX11_isTooOldForAll 14 = .ok (.getfield 465, 3) := by decide +kernel
theorem dX11_isTooOldForAll_17 : decode cX11_isTooOldForAll 17 = .ok (.aload_n 0, 1) := by decide +kernel
theorem dX11_isTooOldForAll_18 : decode cX11_isTooOldForAll 18 = .ok (.getfield 38, 3) := by decide +kernel
theorem dX11_isTooOldForAll_21 : decode cX11_isTooOldForAll 21 = .ok (.iload_n 2, 1) := by decide +kernel
theorem dX11_isTooOldForAll_22 : decode cX11_isTooOldForAll 22 = .ok (.invokevirtual 324, 3) := by decide +kernel
theorem dX11_isTooOldForAll_25 : decode cX11_isTooOldForAll 25 = .ok (.checkcast 139, 3) := by decide +kernel
theorem dX11_isTooOldForAll_28 : decode cX11_isTooOldForAll 28 = .ok (.getfield 471, 3) := by decide +kernel
theorem dX11_isTooOldForAll_31 : decode cX11_isTooOldForAll 31 = .ok (.if_icmp .gt 5, 3) := by decide +kernel
theorem dX11_isTooOldForAll_34 : decode cX11_isTooOldForAll 34 = .ok (.iconst 0, 1) := by decide +kernel
theorem dX11_isTooOldForAll_35 : decode cX11_isTooOldForAll 35 = .ok (.ireturn, 1) := by decide +kernel
theorem dX11_isTooOldForAll_36 : decode cX11_isTooOldForAll 36 = .ok (.iinc 2 1, 3) := by decide +kernel
theorem dX11_isTooOldForAll_39 : decode cX11_isTooOldForAll 39 = .ok (.goto (-37), 3) := by decide +kernel
theorem dX11_isTooOldForAll_42 : decode cX11_isTooOldForAll 42 = .ok (.aload_n 0, 1) := by decide +kernel
theorem dX11_isTooOldForAll_43 : decode cX11_isTooOldForAll 43 = .ok (.getfield 38, 3) := by decide +kernel
theorem dX11_isTooOldForAll_46 : decode cX11_isTooOldForAll 46 = .ok (.invokevirtual 103, 3) := by decide +kernel
theorem dX11_isTooOldForAll_49 : decode cX11_isTooOldForAll 49 = .ok (.ifCond .le 7, 3) := by decide +kernel
theorem dX11_isTooOldForAll_52 : decode cX11_isTooOldForAll 52 = .ok (.iconst 1, 1) := by decide +kernel
theorem dX11_isTooOldForAll_53 : decode cX11_isTooOldForAll 53 = .ok (.goto 4, 3) := by decide +kernel
theorem dX11_isTooOldForAll_56 : decode cX11_isTooOldForAll 56 = .ok (.iconst 0, 1) := by decide +kernel
theorem dX11_isTooOldForAll_57 : decode cX11_isTooOldForAll 57 = .ok (.ireturn, 1) := by decide +kernel
theorem dX11_isBarredForAll_0 : decode cX11_isBarredForAll 0 = .ok (.iconst 0, 1) := by decide +kernel
theorem dX11_isBarredForAll_1 : decode cX11_isBarredForAll 1 = .ok (.istore_n 2, 1) := by decide +kernel
theorem dX11_isBarredForAll_2 : decode cX11_isBarredForAll 2 = .ok (.iload_n 2, 1) := by decide +kernel
theorem dX11_isBarredForAll_3 : decode cX11_isBarredForAll 3 = .ok (.aload_n 0, 1) := by decide +kernel
theorem dX11_isBarredForAll_4 : decode cX11_isBarredForAll 4 = .ok (.getfield 38, 3) := by decide +kernel
theorem dX11_isBarredForAll_7 : decode cX11_isBarredForAll 7 = .ok (.invokevirtual 103, 3) := by decide +kernel
theorem dX11_isBarredForAll_10 : decode cX11_isBarredForAll 10 = .ok (.if_icmp .ge 33, 3) := by decide +kernel
theorem dX11_isBarredForAll_13 : decode cX11_isBarredForAll 13 = .ok (.aload_n 1, 1) := by decide +kernel
theorem dX11_isBarredForAll_14 : decode cX11_isBarredForAll 14 = .ok (.aload_n 0, 1) := by decide +kernel
theorem dX11_isBarredForAll_15 : decode cX11_isBarredForAll 15 = .ok (.getfield 38, 3) := by decide +kernel
theorem dX11_isBarredForAll_18 : decode cX11_isBarredForAll 18 = .ok (.iload_n 2, 1) := by decide +kernel
theorem dX11_isBarredForAll_19 : decode cX11_isBarredForAll 19 = .ok (.invokevirtual 324, 3) := by decide +kernel
theorem dX11_isBarredForAll_22 : decode cX11_isBarredForAll 22 = .ok (.checkcast 139, 3) := by decide +kernel
theorem dX11_isBarredForAll_25 : decode cX11_isBarredForAll 25 = .ok (.aload_n 0, 1) := by decide +kernel
theorem dX11_isBarredForAll_26 : decode cX11_isBarredForAll 26 = .ok (.getfield 95, 3) := by decide +kernel
theorem dX11_isBarredForAll_29 : decode cX11_isBarredForAll 29 = .ok (.invokevirtual 487, 3) := by decide +kernel
theorem dX11_isBarredForAll_32 : decode cX11_isBarredForAll 32 = .ok (.ifCond .ne 5, 3) := by decide +kernel
theorem dX11_isBarredForAll_35 : decode cX11_isBarredForAll 35 = .ok (.iconst 0, 1) := by decide +kernel
theorem dX11_isBarredForAll_36 : decode cX11_isBarredForAll 36 = .ok (.ireturn, 1) := by decide +kernel
theorem dX11_isBarredForAll_37 : decode cX11_isBarredForAll 37 = .ok (.iinc 2 1, 3) := by decide +kernel
theorem dX11_isBarredForAll_40 : decode cX11_isBarredForAll 40 = .ok (.goto (-38), 3) := by decide +kernel
theorem dX11_isBarredForAll_43 : decode cX11_isBarredForAll 43 = .ok (.aload_n 0, 1) := by decide +kernel
theorem dX11_isBarredForAll_44 : decode cX11_isBarredForAll 44 = .ok (.getfield 38, 3) := by decide +kernel
theorem dX11_isBarredForAll_47 : decode cX11_isBarredForAll 47 = .ok (.invokevirtual 103, 3) := by decide +kernel
theorem dX11_isBarredForAll_50 : decode cX11_isBarredForAll 50 = .ok (.ifCond .le 7, 3) := by decide +kernel
theorem dX11_isBarredForAll_53 : decode cX11_isBarredForAll 53 = .ok (.iconst 1, 1) := by decide +kernel
theorem dX11_isBarredForAll_54 : decode cX11_isBarredForAll 54 = .ok (.goto 4, 3) := by decide +kernel
theorem dX11_isBarredForAll_57 : decode cX11_isBarredForAll 57 = .ok (.iconst 0, 1) := by decide +kernel
theorem dX11_isBarredForAll_58 : decode cX11_isBarredForAll 58 = .ok (.ireturn, 1) := by decide +kernel
