theorem dX12_gift_41 : decode cX12_gift 41 = .ok (.invokestatic 203, 3) := by decide +kernel
theorem dX12_gift_44 : decode cX12_gift 44 = .ok (.ifCond .eq 45, 3) := by decide +kernel
theorem dX12_gift_47 : decode cX12_gift 47 = .ok (.iload_n 2, 1) := by decide +kernel
theorem dX12_gift_48 : decode cX12_gift 48 = .ok (.iconst 1, 1) := by decide +kernel
theorem dX12_gift_49 : decode cX12_gift 49 = .ok (.if_icmp .ne 11, 3) := by decide +kernel
theorem dX12_gift_52 : decode cX12_gift 52 = .ok (.aload_n 0, 1) := by decide +kernel
theorem dX12_gift_53 : decode cX12_gift 53 = .ok (.iload_n 3, 1) := by decide +kernel
theorem dX12_gift_54 : decode cX12_gift 54 = .ok (.invokevirtual 435, 3) := by decide +kernel
theorem dX12_gift_57 : decode cX12_gift 57 = .ok (.ifCond .eq 32, 3) := by decide +kernel
theorem dX12_gift_60 : decode cX12_gift 60 = .ok (.iload_n 2, 1) := by decide +kernel
theorem dX12_gift_61 : decode cX12_gift 61 = .ok (.iconst 2, 1) := by decide +kernel
theorem dX12_gift_62 : decode cX12_gift 62 = .ok (.if_icmp .ne 10, 3) := by decide +kernel
theorem dX12_gift_65 : decode cX12_gift 65 = .ok (.iload_n 3, 1) := by decide +kernel
theorem dX12_gift_66 : decode cX12_gift 66 = .ok (.invokestatic 446, 3) := by decide +kernel
theorem dX12_gift_69 : decode cX12_gift 69 = .ok (.ifCond .eq 20, 3) := by decide +kernel
theorem dX12_gift_72 : decode cX12_gift 72 = .ok (.iload_n 2, 1) := by decide +kernel
theorem dX12_gift_73 : decode cX12_gift 73 = .ok (.iconst 3, 1) := by decide +kernel
theorem dX12_gift_74 : decode cX12_gift 74 = .ok (.if_icmp .ne 17, 3) := by decide +kernel
theorem dX12_gift_77 : decode cX12_gift 77 = .ok (.iload_n 3, 1) := by decide +kernel
theorem dX12_gift_78 : decode cX12_gift 78 = .ok (.i2l, 1) := by decide +kernel
theorem dX12_gift_79 : decode cX12_gift 79 = .ok (.lconst 0, 1) := by decide +kernel
theorem dX12_gift_80 : decode cX12_gift 80 = .ok (.ldc2_w 226, 3) := by decide +kernel
theorem dX12_gift_83 : decode cX12_gift 83 = .ok (.invokestatic 203, 3) := by decide +kernel
theorem dX12_gift_86 : decode cX12_gift 86 = .ok (.ifCond .ne 5, 3) := by decide +kernel
theorem dX12_gift_89 : decode cX12_gift 89 = .ok (.iconst 0, 1) := by decide +kernel
theorem dX12_gift_90 : decode cX12_gift 90 = .ok (.ireturn, 1) := by decide +kernel
theorem dX12_gift_91 : decode cX12_gift 91 = .ok (.aload_n 0, 1) := by decide +kernel
theorem dX12_gift_92 : decode cX12_gift 92 = .ok (.getfield 144, 3) := by decide +kernel
theorem dX12_gift_95 : decode cX12_gift 95 = .ok (.aload_n 0, 1) := by decide +kernel
theorem dX12_gift_96 : decode cX12_gift 96 = .ok (.getfield 426, 3) := by decide +kernel
theorem dX12_gift_99 : decode cX12_gift 99 = .ok (.iload_n 1, 1) := by decide +kernel
theorem dX12_gift_100 : decode cX12_gift 100 = .ok (.iastore, 1) := by decide +kernel
theorem dX12_gift_101 : decode cX12_gift 101 = .ok (.aload_n 0, 1) := by decide +kernel
theorem dX12_gift_102 : decode cX12_gift 102 = .ok (.getfield 147, 3) := by decide +kernel
theorem dX12_gift_105 : decode cX12_gift 105 = .ok (.aload_n 0, 1) := by decide +kernel
theorem dX12_gift_106 : decode cX12_gift 106 = .ok (.getfield 426, 3) := by decide +kernel
theorem dX12_gift_109 : decode cX12_gift 109 = .ok (.iload_n 2, 1) := by decide +kernel
theorem dX12_gift_110 : decode cX12_gift 110 = .ok (.iastore, 1) := by decide +kernel
theorem dX12_gift_111 : decode cX12_gift 111 = .ok (.aload_n 0, 1) := by decide +kernel
theorem dX12_gift_112 : decode cX12_gift 112 = .ok (.getfield 150, 3) := by decide +kernel
theorem dX12_gift_115 : decode cX12_gift 115 = .ok (.aload_n 0, 1) := by decide +kernel
theorem dX12_gift_116 : decode cX12_gift 116 = .ok (.getfield 426, 3) := by decide +kernel
theorem dX12_gift_119 : decode cX12_gift 119 = .ok (.iload_n 3, 1) := by decide +kernel
theorem dX12_gift_120 : decode cX12_gift 120 = .ok (.iastore, 1) := by decide +kernel
theorem dX12_gift_121 : decode cX12_gift 121 = .ok (.aload_n 0, 1) := by decide +kernel
theorem dX12_gift_122 : decode cX12_gift 122 = .ok (.dup, 1) := by decide +kernel
theorem dX12_gift_123 : decode cX12_gift 123 = .ok (.getfield 426, 3) := by decide +kernel
theorem dX12_gift_126 : decode cX12_gift 126 = .ok (.iconst 1, 1) := by decide +kernel
theorem dX12_gift_127 : decode cX12_gift 127 = .ok (.iadd, 1) := by decide +kernel
theorem dX12_gift_128 : decode cX12_gift 128 = .ok (.putfield 426, 3) := by decide +kernel
theorem dX12_gift_131 : decode cX12_gift 131 = .ok (.iconst 1, 1) := by decide +kernel
theorem dX12_gift_132 : decode cX12_gift 132 = .ok (.ireturn, 1) := by decide +kernel
theorem dX12_writes_0 : decode cX12_writes 0 = .ok (.aload_n 0, 1) := by decide +kernel
theorem dX12_writes_1 : decode cX12_writes 1 = .ok (.getfield 153, 3) := by decide +kernel
theorem dX12_writes_4 : decode cX12_writes 4 = .ok (.aload_n 0, 1) := by decide +kernel
theorem dX12_writes_5 : decode cX12_writes 5 = .ok (.getfield 449, 3) := by decide +kernel
theorem dX12_writes_8 : decode cX12_writes 8 = .ok (.iload_n 1, 1) := by decide +kernel
theorem dX12_writes_9 : decode cX12_writes 9 = .ok (.iastore, 1) := by decide +kernel
theorem dX12_writes_10 : decode cX12_writes 10 = .ok (.aload_n 0, 1) := by decide +kernel
theorem dX12_writes_11 : decode cX12_writes 11 = .ok (.getfield 156, 3) := by decide +kernel
theorem dX12_writes_14 : decode cX12_writes 14 = .ok (.aload_n 0, 1) := by decide +kernel
theorem dX12_writes_15 : decode cX12_writes 15 = .ok (.getfield 449, 3) := by decide +kernel
theorem dX12_writes_18 : decode cX12_writes 18 = .ok (.iload_n 2, 1) := by decide +kernel
theorem dX12_writes_19 : decode cX12_writes 19 = .ok (.iastore, 1) := by decide +kernel
theorem dX12_writes_20 : decode cX12_writes 20 = .ok (.aload_n 0, 1) := by decide +kernel
theorem dX12_writes_21 : decode cX12_writes 21 = .ok (.getfield 159, 3) := by decide +kernel
theorem dX12_writes_24 : decode cX12_writes 24 = .ok (.aload_n 0, 1) := by decide +kernel
theorem dX12_writes_25 : decode cX12_writes 25 = .ok (.getfield 449, 3) := by decide +kernel
theorem dX12_writes_28 : decode cX12_writes 28 = .ok (.aload_n 0, 1) := by decide +kernel
theorem dX12_writes_29 : decode cX12_writes 29 = .ok (.getfield 219, 3) := by decide +kernel
theorem dX12_writes_32 : decode cX12_writes 32 = .ok (.iastore, 1) := by decide +kernel
theorem dX12_writes_33 : decode cX12_writes 33 = .ok (.aload_n 0, 1) := by decide +kernel
theorem dX12_writes_34 : decode cX12_writes 34 = .ok (.getfield 162, 3) := by decide +kernel
theorem dX12_writes_37 : decode cX12_writes 37 = .ok (.aload_n 0, 1) := by decide +kernel
theorem dX12_writes_38 : decode cX12_writes 38 = .ok (.getfield 449, 3) := by decide +kernel
theorem dX12_writes_41 : decode cX12_writes 41 = .ok (.aload_n 0, 1) := by decide +kernel
theorem dX12_writes_42 : decode cX12_writes 42 = .ok (.getfield 219, 3) := by decide +kernel
theorem dX12_writes_45 : decode cX12_writes 45 = .ok (.aload_n 0, 1) := by decide +kernel
theorem dX12_writes_46 : decode cX12_writes 46 = .ok (.getfield 252, 3) := by decide +kernel
theorem dX12_writes_49 : decode cX12_writes 49 = .ok (.iadd, 1) := by decide +kernel
theorem dX12_writes_50 : decode cX12_writes 50 = .ok (.iastore, 1) := by decide +kernel
theorem dX12_writes_51 : decode cX12_writes 51 = .ok (.aload_n 0, 1) := by decide +kernel
theorem dX12_writes_52 : decode cX12_writes 52 = .ok (.getfield 171, 3) := by decide +kernel
theorem dX12_writes_55 : decode cX12_writes 55 = .ok (.aload_n 0, 1) := by decide +kernel
theorem dX12_writes_56 : decode cX12_writes 56 = .ok (.getfield 449, 3) := by decide +kernel
theorem dX12_writes_59 : decode cX12_writes 59 = .ok (.iconst 0, 1) := by decide +kernel
theorem dX12_writes_60 : decode cX12_writes 60 = .ok (.bastore, 1) := by decide +kernel
theorem dX12_writes_61 : decode cX12_writes 61 = .ok (.aload_n 0, 1) := by decide +kernel
theorem dX12_writes_62 : decode cX12_writes 62 = .ok (.dup, 1) := by decide +kernel
theorem dX12_writes_63 : decode cX12_writes 63 = .ok (.getfield 449, 3) := by decide +kernel
theorem dX12_writes_66 : decode cX12_writes 66 = .ok (.iconst 1, 1) := by decide +kernel
theorem dX12_writes_67 : decode cX12_writes 67 = .ok (.iadd, 1) := by decide +kernel
theorem dX12_writes_68 : decode cX12_writes 68 = .ok (.putfield 449, 3) := by decide +kernel
theorem dX12_writes_71 : decode cX12_writes 71 = .ok (.return_, 1) := by decide +kernel
theorem dX12_notFor_0 : decode cX12_notFor 0 = .ok (.aload_n 0, 1) := by decide +kernel
theorem dX12_notFor_1 : decode cX12_notFor 1 = .ok (.getfield 44, 3) := by decide +kernel
theorem dX12_notFor_4 : decode cX12_notFor 4 = .ok (.iload_n 1, 1) := by decide +kernel
theorem dX12_notFor_5 : decode cX12_notFor 5 = .ok (.iaload, 1) := by decide +kernel
theorem dX12_notFor_6 : decode cX12_notFor 6 = .ok (.ifCond .eq 5, 3) := by decide +kernel
theorem dX12_notFor_9 : decode cX12_notFor 9 = .ok (.iconst 1, 1) := by decide +kernel
theorem dX12_notFor_10 : decode cX12_notFor 10 = .ok (.ireturn, 1) := by decide +kernel
theorem dX12_notFor_11 : decode cX12_notFor 11 = .ok (.aload_n 0, 1) := by decide +kernel
theorem dX12_notFor_12 : decode cX12_notFor 12 = .ok (.getfield 62, 3) := by decide +kernel
theorem dX12_notFor_15 : decode cX12_notFor 15 = .ok (.iload_n 1, 1) := by decide +kernel
theorem dX12_notFor_16 : decode cX12_notFor 16 = .ok (.baload, 1) := by decide +kernel
theorem dX12_notFor_17 : decode cX12_notFor 17 = .ok (.ifCond .eq 5, 3) := by decide +kernel
theorem dX12_notFor_20 : decode cX12_notFor 20 = .ok (.iconst 2, 1) := by decide +kernel
theorem dX12_notFor_21 : decode cX12_notFor 21 = .ok (.ireturn, 1) := by decide +kernel
theorem dX12_notFor_22 : decode cX12_notFor 22 = .ok (.aload_n 0, 1) := by decide +kernel
theorem dX12_notFor_23 : decode cX12_notFor 23 = .ok (.iload_n 1, 1) := by decide +kernel
theorem dX12_notFor_24 : decode cX12_notFor 24 = .ok (.invokevirtual 452, 3) := by decide +kernel
theorem dX12_notFor_27 : decode cX12_notFor 27 = .ok (.ifCond .eq 5, 3) := by decide +kernel
theorem dX12_notFor_30 : decode cX12_notFor 30 = .ok (.iconst 3, 1) := by decide +kernel
theorem dX12_notFor_31 : decode cX12_notFor 31 = .ok (.ireturn, 1) := by decide +kernel
theorem dX12_notFor_32 : decode cX12_notFor 32 = .ok (.aload_n 0, 1) := by decide +kernel
theorem dX12_notFor_33 : decode cX12_notFor 33 = .ok (.getfield 41, 3) := by decide +kernel
theorem dX12_notFor_36 : decode cX12_notFor 36 = .ok (.iload_n 1, 1) := by decide +kernel
theorem dX12_notFor_37 : decode cX12_notFor 37 = .ok (.iaload, 1) := by decide +kernel
theorem dX12_notFor_38 : decode cX12_notFor 38 = .ok (.aload_n 0, 1) := by decide +kernel
theorem dX12_notFor_39 : decode cX12_notFor 39 = .ok (.getfield 26, 3) := by decide +kernel
theorem dX12_notFor_42 : decode cX12_notFor 42 = .ok (.aload_n 0, 1) := by decide +kernel
theorem dX12_notFor_43 : decode cX12_notFor 43 = .ok (.getfield 35, 3) := by decide +kernel
theorem dX12_notFor_46 : decode cX12_notFor 46 = .ok (.iload_n 1, 1) := by decide +kernel
theorem dX12_notFor_47 : decode cX12_notFor 47 = .ok (.iaload, 1) := by decide +kernel
theorem dX12_notFor_48 : decode cX12_notFor 48 = .ok (.iaload, 1) := by decide +kernel
theorem dX12_notFor_49 : decode cX12_notFor 49 = .ok (.if_icmp .lt 5, 3) := by decide +kernel
theorem dX12_notFor_52 : decode cX12_notFor 52 = .ok (.iconst 4, 1) := by decide +kernel
theorem dX12_notFor_53 : decode cX12_notFor 53 = .ok (.ireturn, 1) := by decide +kernel
theorem dX12_notFor_54 : decode cX12_notFor 54 = .ok (.aload_n 0, 1) := by decide +kernel
theorem dX12_notFor_55 : decode cX12_notFor 55 = .ok (.iload_n 1, 1) := by decide +kernel
theorem dX12_notFor_56 : decode cX12_notFor 56 = .ok (.iload_n 2, 1) := by decide +kernel
theorem dX12_notFor_57 : decode cX12_notFor 57 = .ok (.invokevirtual 455, 3) := by decide +kernel
theorem dX12_notFor_60 : decode cX12_notFor 60 = .ok (.ifCond .eq 5, 3) := by decide +kernel
theorem dX12_notFor_63 : decode cX12_notFor 63 = .ok (.iconst 5, 1) := by decide +kernel
theorem dX12_notFor_64 : decode cX12_notFor 64 = .ok (.ireturn, 1) := by decide +kernel
theorem dX12_notFor_65 : decode cX12_notFor 65 = .ok (.aload_n 0, 1) := by decide +kernel
theorem dX12_notFor_66 : decode cX12_notFor 66 = .ok (.aload_n 0, 1) := by decide +kernel
theorem dX12_notFor_67 : decode cX12_notFor 67 = .ok (.getfield 35, 3) := by decide +kernel
theorem dX12_notFor_70 : decode cX12_notFor 70 = .ok (.iload_n 1, 1) := by decide +kernel
theorem dX12_notFor_71 : decode cX12_notFor 71 = .ok (.iaload, 1) := by decide +kernel
theorem dX12_notFor_72 : decode cX12_notFor 72 = .ok (.iload_n 1, 1) := by decide +kernel
theorem dX12_notFor_73 : decode cX12_notFor 73 = .ok (.iload_n 2, 1) := by decide +kernel
theorem dX12_notFor_74 : decode cX12_notFor 74 = .ok (.iconst 0, 1) := by decide +kernel
theorem dX12_notFor_75 : decode cX12_notFor 75 = .ok (.invokevirtual 458, 3) := by decide +kernel
theorem dX12_notFor_78 : decode cX12_notFor 78 = .ok (.aload_n 0, 1) := by decide +kernel
theorem dX12_notFor_79 : decode cX12_notFor 79 = .ok (.bipush 97, 2) := by decide +kernel
theorem dX12_notFor_81 : decode cX12_notFor 81 = .ok (.invokevirtual 462, 3) := by decide +kernel
theorem dX12_notFor_84 : decode cX12_notFor 84 = .ok (.ifCond .ne 8, 3) := by decide +kernel
theorem dX12_notFor_87 : decode cX12_notFor 87 = .ok (.bipush 6, 2) := by decide +kernel
theorem dX12_notFor_89 : decode cX12_notFor 89 = .ok (.goto 18, 3) := by decide +kernel
theorem dX12_notFor_92 : decode cX12_notFor 92 = .ok (.aload_n 0, 1) := by decide +kernel
theorem dX12_notFor_93 : decode cX12_notFor 93 = .ok (.bipush 117, 2) := by decide +kernel
theorem dX12_notFor_95 : decode cX12_notFor 95 = .ok (.invokevirtual 465, 3) := by decide +kernel
theorem dX12_notFor_98 : decode cX12_notFor 98 = .ok (.ifCond .eq 8, 3) := by decide +kernel
theorem dX12_notFor_101 : decode cX12_notFor 101 = .ok (.bipush 7, 2) := by decide +kernel
theorem dX12_notFor_103 : decode cX12_notFor 103 = .ok (.goto 4, 3) := by decide +kernel
theorem dX12_notFor_106 : decode cX12_notFor 106 = .ok (.iconst 0, 1) := by decide +kernel
theorem dX12_notFor_107 : decode cX12_notFor 107 = .ok (.ireturn, 1) := by decide +kernel
theorem dX12_not_0 : decode cX12_not 0 = .ok (.aload_n 0, 1) := by decide +kernel
theorem dX12_not_1 : decode cX12_not 1 = .ok (.iload_n 1, 1) := by decide +kernel
theorem dX12_not_2 : decode cX12_not 2 = .ok (.invokevirtual 443, 3) := by decide +kernel
theorem dX12_not_5 : decode cX12_not 5 = .ok (.ifCond .eq 20, 3) := by decide +kernel
theorem dX12_not_8 : decode cX12_not 8 = .ok (.aload_n 0, 1) := by decide +kernel
theorem dX12_not_9 : decode cX12_not 9 = .ok (.iload_n 2, 1) := by decide +kernel
theorem dX12_not_10 : decode cX12_not 10 = .ok (.invokevirtual 435, 3) := by decide +kernel
theorem dX12_not_13 : decode cX12_not 13 = .ok (.ifCond .eq 12, 3) := by decide +kernel
theorem dX12_not_16 : decode cX12_not 16 = .ok (.aload_n 0, 1) := by decide +kernel
theorem dX12_not_17 : decode cX12_not 17 = .ok (.iload_n 1, 1) := by decide +kernel
theorem dX12_not_18 : decode cX12_not 18 = .ok (.iload_n 2, 1) := by decide +kernel
theorem dX12_not_19 : decode cX12_not 19 = .ok (.invokevirtual 468, 3) := by decide +kernel
theorem dX12_not_22 : decode cX12_not 22 = .ok (.goto 4, 3) := by decide +kernel
theorem dX12_not_25 : decode cX12_not 25 = .ok (.iconst (-1), 1) := by decide +kernel
theorem dX12_not_26 : decode cX12_not 26 = .ok (.ireturn, 1) := by decide +kernel
theorem dX12_lend_0 : decode cX12_lend 0 = .ok (.aload_n 0, 1) := by decide +kernel
theorem dX12_lend_1 : decode cX12_lend 1 = .ok (.iload_n 1, 1) := by decide +kernel
theorem dX12_lend_2 : decode cX12_lend 2 = .ok (.invokevirtual 443, 3) := by decide +kernel
theorem dX12_lend_5 : decode cX12_lend 5 = .ok (.ifCond .eq 30, 3) := by decide +kernel
theorem dX12_lend_8 : decode cX12_lend 8 = .ok (.aload_n 0, 1) := by decide +kernel
theorem dX12_lend_9 : decode cX12_lend 9 = .ok (.iload_n 2, 1) := by decide +kernel
theorem dX12_lend_10 : decode cX12_lend 10 = .ok (.invokevirtual 435, 3) := by decide +kernel
theorem dX12_lend_13 : decode cX12_lend 13 = .ok (.ifCond .eq 22, 3) := by decide +kernel
theorem dX12_lend_16 : decode cX12_lend 16 = .ok (.aload_n 0, 1) := by decide +kernel
theorem dX12_lend_17 : decode cX12_lend 17 = .ok (.getfield 472, 3) := by decide +kernel
theorem dX12_lend_20 : decode cX12_lend 20 = .ok (.sipush 300, 3) := by decide +kernel
theorem dX12_lend_23 : decode cX12_lend 23 = .ok (.if_icmp .eq 12, 3) := by decide +kernel
theorem dX12_lend_26 : decode cX12_lend 26 = .ok (.aload_n 0, 1) := by decide +kernel
theorem dX12_lend_27 : decode cX12_lend 27 = .ok (.iload_n 1, 1) := by decide +kernel
theorem dX12_lend_28 : decode cX12_lend 28 = .ok (.iload_n 2, 1) := by decide +kernel
theorem dX12_lend_29 : decode cX12_lend 29 = .ok (.invokevirtual 468, 3) := by decide +kernel
theorem dX12_lend_32 : decode cX12_lend 32 = .ok (.ifCond .eq 5, 3) := by decide +kernel
theorem dX12_lend_35 : decode cX12_lend 35 = .ok (.iconst (-1), 1) := by decide +kernel
theorem dX12_lend_36 : decode cX12_lend 36 = .ok (.ireturn, 1) := by decide +kernel
theorem dX12_lend_37 : decode cX12_lend 37 = .ok (.aload_n 0, 1) := by decide +kernel
theorem dX12_lend_38 : decode cX12_lend 38 = .ok (.getfield 50, 3) := by decide +kernel
theorem dX12_lend_41 : decode cX12_lend 41 = .ok (.iload_n 1, 1) := by decide +kernel
theorem dX12_lend_42 : decode cX12_lend 42 = .ok (.aload_n 0, 1) := by decide +kernel
theorem dX12_lend_43 : decode cX12_lend 43 = .ok (.getfield 219, 3) := by decide +kernel
theorem dX12_lend_46 : decode cX12_lend 46 = .ok (.aload_n 0, 1) := by decide +kernel
theorem dX12_lend_47 : decode cX12_lend 47 = .ok (.bipush 100, 2) := by decide +kernel
theorem dX12_lend_49 : decode cX12_lend 49 = .ok (.iconst 1, 1) := by decide +kernel
theorem dX12_lend_50 : decode cX12_lend 50 = .ok (.sipush 200, 3) := by decide +kernel
theorem dX12_lend_53 : decode cX12_lend 53 = .ok (.bipush 21, 2) := by decide +kernel
theorem dX12_lend_55 : decode cX12_lend 55 = .ok (.invokevirtual 475, 3) := by decide +kernel
theorem dX12_lend_58 : decode cX12_lend 58 = .ok (.iadd, 1) := by decide +kernel
theorem dX12_lend_59 : decode cX12_lend 59 = .ok (.iastore, 1) := by decide +kernel
theorem dX12_lend_60 : decode cX12_lend 60 = .ok (.aload_n 0, 1) := by decide +kernel
theorem dX12_lend_61 : decode cX12_lend 61 = .ok (.getfield 44, 3) := by decide +kernel
theorem dX12_lend_64 : decode cX12_lend 64 = .ok (.iload_n 1, 1) := by decide +kernel
theorem dX12_lend_65 : decode cX12_lend 65 = .ok (.iconst 1, 1) := by decide +kernel
theorem dX12_lend_66 : decode cX12_lend 66 = .ok (.iastore, 1) := by decide +kernel
theorem dX12_lend_67 : decode cX12_lend 67 = .ok (.aload_n 0, 1) := by decide +kernel
theorem dX12_lend_68 : decode cX12_lend 68 = .ok (.getfield 47, 3) := by decide +kernel
theorem dX12_lend_71 : decode cX12_lend 71 = .ok (.iload_n 1, 1) := by decide +kernel
theorem dX12_lend_72 : decode cX12_lend 72 = .ok (.iload_n 2, 1) := by decide +kernel
theorem dX12_lend_73 : decode cX12_lend 73 = .ok (.iastore, 1) := by decide +kernel
theorem dX12_lend_74 : decode cX12_lend 74 = .ok (.aload_n 0, 1) := by decide +kernel
theorem dX12_lend_75 : decode cX12_lend 75 = .ok (.getfield 53, 3) := by decide +kernel
theorem dX12_lend_78 : decode cX12_lend 78 = .ok (.iload_n 1, 1) := by decide +kernel
theorem dX12_lend_79 : decode cX12_lend 79 = .ok (.aload_n 0, 1) := by decide +kernel
theorem dX12_lend_80 : decode cX12_lend 80 = .ok (.getfield 219, 3) := by decide +kernel
theorem dX12_lend_83 : decode cX12_lend 83 = .ok (.iastore, 1) := by decide +kernel
theorem dX12_lend_84 : decode cX12_lend 84 = .ok (.aload_n 0, 1) := by decide +kernel
theorem dX12_lend_85 : decode cX12_lend 85 = .ok (.getfield 56, 3) := by decide +kernel
theorem dX12_lend_88 : decode cX12_lend 88 = .ok (.iload_n 1, 1) := by decide +kernel
theorem dX12_lend_89 : decode cX12_lend 89 = .ok (.dup2, 1) := by decide +kernel
theorem dX12_lend_90 : decode cX12_lend 90 = .ok (.iaload, 1) := by decide +kernel
theorem dX12_lend_91 : decode cX12_lend 91 = .ok (.iconst 1, 1) := by decide +kernel
theorem dX12_lend_92 : decode cX12_lend 92 = .ok (.iadd, 1) := by decide +kernel
theorem dX12_lend_93 : decode cX12_lend 93 = .ok (.iastore, 1) := by decide +kernel
theorem dX12_lend_94 : decode cX12_lend 94 = .ok (.aload_n 0, 1) := by decide +kernel
theorem dX12_lend_95 : decode cX12_lend 95 = .ok (.getfield 183, 3) := by decide +kernel
theorem dX12_lend_98 : decode cX12_lend 98 = .ok (.bipush 8, 2) := by decide +kernel
theorem dX12_lend_100 : decode cX12_lend 100 = .ok (.iload_n 2, 1) := by decide +kernel
theorem dX12_lend_101 : decode cX12_lend 101 = .ok (.imul, 1) := by decide +kernel
theorem dX12_lend_102 : decode cX12_lend 102 = .ok (.aload_n 0, 1) := by decide +kernel
theorem dX12_lend_103 : decode cX12_lend 103 = .ok (.getfield 35, 3) := by decide +kernel
theorem dX12_lend_106 : decode cX12_lend 106 = .ok (.iload_n 1, 1) := by decide +kernel
theorem dX12_lend_107 : decode cX12_lend 107 = .ok (.iaload, 1) := by decide +kernel
theorem dX12_lend_108 : decode cX12_lend 108 = .ok (.iadd, 1) := by decide +kernel
theorem dX12_lend_109 : decode cX12_lend 109 = .ok (.iconst (-1), 1) := by decide +kernel
theorem dX12_lend_110 : decode cX12_lend 110 = .ok (.iastore, 1) := by decide +kernel
theorem dX12_lend_111 : decode cX12_lend 111 = .ok (.aload_n 0, 1) := by decide +kernel
theorem dX12_lend_112 : decode cX12_lend 112 = .ok (.dup, 1) := by decide +kernel
theorem dX12_lend_113 : decode cX12_lend 113 = .ok (.getfield 472, 3) := by decide +kernel
theorem dX12_lend_116 : decode cX12_lend 116 = .ok (.iconst 1, 1) := by decide +kernel
theorem dX12_lend_117 : decode cX12_lend 117 = .ok (.iadd, 1) := by decide +kernel
theorem dX12_lend_118 : decode cX12_lend 118 = .ok (.putfield 472, 3) := by decide +kernel
theorem dX12_lend_121 : decode cX12_lend 121 = .ok (.aload_n 0, 1) := by decide +kernel
theorem dX12_lend_122 : decode cX12_lend 122 = .ok (.iload_n 1, 1) := by decide +kernel
theorem dX12_lend_123 : decode cX12_lend 123 = .ok (.iconst 1, 1) := by decide +kernel
theorem dX12_lend_124 : decode cX12_lend 124 = .ok (.iload_n 2, 1) := by decide +kernel
theorem dX12_lend_125 : decode cX12_lend 125 = .ok (.iadd, 1) := by decide +kernel
theorem dX12_lend_126 : decode cX12_lend 126 = .ok (.invokevirtual 479, 3) := by decide +kernel
theorem dX12_lend_129 : decode cX12_lend 129 = .ok (.aload_n 0, 1) := by decide +kernel
theorem dX12_lend_130 : decode cX12_lend 130 = .ok (.getfield 50, 3) := by decide +kernel
theorem dX12_lend_133 : decode cX12_lend 133 = .ok (.iload_n 1, 1) := by decide +kernel
theorem dX12_lend_134 : decode cX12_lend 134 = .ok (.iaload, 1) := by decide +kernel
theorem dX12_lend_135 : decode cX12_lend 135 = .ok (.ireturn, 1) := by decide +kernel
theorem dX12_back_0 : decode cX12_back 0 = .ok (.aload_n 0, 1) := by decide +kernel
theorem dX12_back_1 : decode cX12_back 1 = .ok (.iload_n 1, 1) := by decide +kernel
theorem dX12_back_2 : decode cX12_back 2 = .ok (.invokevirtual 443, 3) := by decide +kernel
theorem dX12_back_5 : decode cX12_back 5 = .ok (.ifCond .eq 22, 3) := by decide +kernel
theorem dX12_back_8 : decode cX12_back 8 = .ok (.aload_n 0, 1) := by decide +kernel
theorem dX12_back_9 : decode cX12_back 9 = .ok (.getfield 44, 3) := by decide +kernel
theorem dX12_back_12 : decode cX12_back 12 = .ok (.iload_n 1, 1) := by decide +kernel
theorem dX12_back_13 : decode cX12_back 13 = .ok (.iaload, 1) := by decide +kernel
theorem dX12_back_14 : decode cX12_back 14 = .ok (.iconst 1, 1) := by decide +kernel
theorem dX12_back_15 : decode cX12_back 15 = .ok (.if_icmp .ne 12, 3) := by decide +kernel
theorem dX12_back_18 : decode cX12_back 18 = .ok (.aload_n 0, 1) := by decide +kernel
theorem dX12_back_19 : decode cX12_back 19 = .ok (.getfield 255, 3) := by decide +kernel
theorem dX12_back_22 : decode cX12_back 22 = .ok (.bipush 6, 2) := by decide +kernel
theorem dX12_back_24 : decode cX12_back 24 = .ok (.if_icmp .ge 5, 3) := by decide +kernel
theorem dX12_back_27 : decode cX12_back 27 = .ok (.iconst (-1), 1) := by decide +kernel
theorem dX12_back_28 : decode cX12_back 28 = .ok (.ireturn, 1) := by decide +kernel
theorem dX12_back_29 : decode cX12_back 29 = .ok (.aload_n 0, 1) := by decide +kernel
theorem dX12_back_30 : decode cX12_back 30 = .ok (.iconst 0, 1) := by decide +kernel
theorem dX12_back_31 : decode cX12_back 31 = .ok (.putfield 255, 3) := by decide +kernel
theorem dX12_back_34 : decode cX12_back 34 = .ok (.iconst 0, 1) := by decide +kernel
theorem dX12_back_35 : decode cX12_back 35 = .ok (.istore_n 2, 1) := by decide +kernel
theorem dX12_back_36 : decode cX12_back 36 = .ok (.iload_n 2, 1) := by decide +kernel
theorem dX12_back_37 : decode cX12_back 37 = .ok (.bipush 6, 2) := by decide +kernel
theorem dX12_back_39 : decode cX12_back 39 = .ok (.if_icmp .ge 36, 3) := by decide +kernel
theorem dX12_back_42 : decode cX12_back 42 = .ok (.aload_n 0, 1) := by decide +kernel
theorem dX12_back_43 : decode cX12_back 43 = .ok (.getfield 7, 3) := by decide +kernel
theorem dX12_back_46 : decode cX12_back 46 = .ok (.iload_n 2, 1) := by decide +kernel
theorem dX12_back_47 : decode cX12_back 47 = .ok (.baload, 1) := by decide +kernel
theorem dX12_back_48 : decode cX12_back 48 = .ok (.sipush 255, 3) := by decide +kernel
theorem dX12_back_51 : decode cX12_back 51 = .ok (.iand, 1) := by decide +kernel
theorem dX12_back_52 : decode cX12_back 52 = .ok (.aload_n 0, 1) := by decide +kernel
theorem dX12_back_53 : decode cX12_back 53 = .ok (.getfield 66, 3) := by decide +kernel
theorem dX12_back_56 : decode cX12_back 56 = .ok (.bipush 6, 2) := by decide +kernel
theorem dX12_back_58 : decode cX12_back 58 = .ok (.iload_n 1, 1) := by decide +kernel
theorem dX12_back_59 : decode cX12_back 59 = .ok (.imul, 1) := by decide +kernel
theorem dX12_back_60 : decode cX12_back 60 = .ok (.iload_n 2, 1) := by decide +kernel
theorem dX12_back_61 : decode cX12_back 61 = .ok (.iadd, 1) := by decide +kernel
theorem dX12_back_62 : decode cX12_back 62 = .ok (.iaload, 1) := by decide +kernel
theorem dX12_back_63 : decode cX12_back 63 = .ok (.if_icmp .le 6, 3) := by decide +kernel
theorem dX12_back_66 : decode cX12_back 66 = .ok (.bipush (-2), 2) := by decide +kernel
theorem dX12_back_68 : decode cX12_back 68 = .ok (.ireturn, 1) := by decide +kernel
theorem dX12_back_69 : decode cX12_back 69 = .ok (.iinc 2 1, 3) := by decide +kernel
theorem dX12_back_72 : decode cX12_back 72 = .ok (.goto (-36), 3) := by decide +kernel
theorem dX12_back_75 : decode cX12_back 75 = .ok (.iconst 0, 1) := by decide +kernel
theorem dX12_back_76 : decode cX12_back 76 = .ok (.istore_n 2, 1) := by decide +kernel
theorem dX12_back_77 : decode cX12_back 77 = .ok (.iconst 0, 1) := by decide +kernel
theorem dX12_back_78 : decode cX12_back 78 = .ok (.istore_n 3, 1) := by decide +kernel
theorem dX12_back_79 : decode cX12_back 79 = .ok (.iload_n 3, 1) := by decide +kernel
theorem dX12_back_80 : decode cX12_back 80 = .ok (.bipush 6, 2) := by decide +kernel
theorem dX12_back_82 : decode cX12_back 82 = .ok (.if_icmp .ge 55, 3) := by decide +kernel
theorem dX12_back_85 : decode cX12_back 85 = .ok (.iload_n 2, 1) := by decide +kernel
theorem dX12_back_86 : decode cX12_back 86 = .ok (.aload_n 0, 1) := by decide +kernel
theorem dX12_back_87 : decode cX12_back 87 = .ok (.getfield 66, 3) := by decide +kernel
theorem dX12_back_90 : decode cX12_back 90 = .ok (.bipush 6, 2) := by decide +kernel
theorem dX12_back_92 : decode cX12_back 92 = .ok (.iload_n 1, 1) := by decide +kernel
theorem dX12_back_93 : decode cX12_back 93 = .ok (.imul, 1) := by decide +kernel
theorem dX12_back_94 : decode cX12_back 94 = .ok (.iload_n 3, 1) := by decide +kernel
theorem dX12_back_95 : decode cX12_back 95 = .ok (.iadd, 1) := by decide +kernel
theorem dX12_back_96 : decode cX12_back 96 = .ok (.iaload, 1) := by decide +kernel
theorem dX12_back_97 : decode cX12_back 97 = .ok (.aload_n 0, 1) := by decide +kernel
theorem dX12_back_98 : decode cX12_back 98 = .ok (.getfield 7, 3) := by decide +kernel
theorem dX12_back_101 : decode cX12_back 101 = .ok (.iload_n 3, 1) := by decide +kernel
theorem dX12_back_102 : decode cX12_back 102 = .ok (.baload, 1) := by decide +kernel
theorem dX12_back_103 : decode cX12_back 103 = .ok (.sipush 255, 3) := by decide +kernel
theorem dX12_back_106 : decode cX12_back 106 = .ok (.iand, 1) := by decide +kernel
theorem dX12_back_107 : decode cX12_back 107 = .ok (.isub, 1) := by decide +kernel
theorem dX12_back_108 : decode cX12_back 108 = .ok (.iadd, 1) := by decide +kernel
theorem dX12_back_109 : decode cX12_back 109 = .ok (.istore_n 2, 1) := by decide +kernel
theorem dX12_back_110 : decode cX12_back 110 = .ok (.aload_n 0, 1) := by decide +kernel
theorem dX12_back_111 : decode cX12_back 111 = .ok (.getfield 66, 3) := by decide +kernel
theorem dX12_back_114 : decode cX12_back 114 = .ok (.bipush 6, 2) := by decide +kernel
theorem dX12_back_116 : decode cX12_back 116 = .ok (.iload_n 1, 1) := by decide +kernel
theorem dX12_back_117 : decode cX12_back 117 = .ok (.imul, 1) := by decide +kernel
theorem dX12_back_118 : decode cX12_back 118 = .ok (.iload_n 3, 1) := by decide +kernel
theorem dX12_back_119 : decode cX12_back 119 = .ok (.iadd, 1) := by decide +kernel
theorem dX12_back_120 : decode cX12_back 120 = .ok (.aload_n 0, 1) := by decide +kernel
theorem dX12_back_121 : decode cX12_back 121 = .ok (.getfield 7, 3) := by decide +kernel
theorem dX12_back_124 : decode cX12_back 124 = .ok (.iload_n 3, 1) := by decide +kernel
theorem dX12_back_125 : decode cX12_back 125 = .ok (.baload, 1) := by decide +kernel
theorem dX12_back_126 : decode cX12_back 126 = .ok (.sipush 255, 3) := by decide +kernel
theorem dX12_back_129 : decode cX12_back 129 = .ok (.iand, 1) := by decide +kernel
theorem dX12_back_130 : decode cX12_back 130 = .ok (.iastore, 1) := by decide +kernel
theorem dX12_back_131 : decode cX12_back 131 = .ok (.iinc 3 1, 3) := by decide +kernel
theorem dX12_back_134 : decode cX12_back 134 = .ok (.goto (-55), 3) := by decide +kernel
theorem dX12_back_137 : decode cX12_back 137 = .ok (.aload_n 0, 1) := by decide +kernel
theorem dX12_back_138 : decode cX12_back 138 = .ok (.getfield 41, 3) := by decide +kernel
theorem dX12_back_141 : decode cX12_back 141 = .ok (.iload_n 1, 1) := by decide +kernel
theorem dX12_back_142 : decode cX12_back 142 = .ok (.dup2, 1) := by decide +kernel
theorem dX12_back_143 : decode cX12_back 143 = .ok (.iaload, 1) := by decide +kernel
theorem dX12_back_144 : decode cX12_back 144 = .ok (.aload_n 0, 1) := by decide +kernel
theorem dX12_back_145 : decode cX12_back 145 = .ok (.getfield 219, 3) := by decide +kernel
theorem dX12_back_148 : decode cX12_back 148 = .ok (.aload_n 0, 1) := by decide +kernel
theorem dX12_back_149 : decode cX12_back 149 = .ok (.getfield 53, 3) := by decide +kernel
theorem dX12_back_152 : decode cX12_back 152 = .ok (.iload_n 1, 1) := by decide +kernel
theorem dX12_back_153 : decode cX12_back 153 = .ok (.iaload, 1) := by decide +kernel
theorem dX12_back_154 : decode cX12_back 154 = .ok (.isub, 1) := by decide +kernel
theorem dX12_back_155 : decode cX12_back 155 = .ok (.iconst 1, 1) := by decide +kernel
theorem dX12_back_156 : decode cX12_back 156 = .ok (.if_icmp .ge 7, 3) := by decide +kernel
theorem dX12_back_159 : decode cX12_back 159 = .ok (.iconst 1, 1) := by decide +kernel
theorem dX12_back_160 : decode cX12_back 160 = .ok (.goto 14, 3) := by decide +kernel
theorem dX12_back_163 : decode cX12_back 163 = .ok (.aload_n 0, 1) := by decide +kernel
theorem dX12_back_164 : decode cX12_back 164 = .ok (.getfield 219, 3) := by decide +kernel
theorem dX12_back_167 : decode cX12_back 167 = .ok (.aload_n 0, 1) := by decide +kernel
theorem dX12_back_168 : decode cX12_back 168 = .ok (.getfield 53, 3) := by decide +kernel
theorem dX12_back_171 : decode cX12_back 171 = .ok (.iload_n 1, 1) := by decide +kernel
theorem dX12_back_172 : decode cX12_back 172 = .ok (.iaload, 1) := by decide +kernel
theorem dX12_back_173 : decode cX12_back 173 = .ok (.isub, 1) := by decide +kernel
theorem dX12_back_174 : decode cX12_back 174 = .ok (.iadd, 1) := by decide +kernel
theorem dX12_back_175 : decode cX12_back 175 = .ok (.iastore, 1) := by decide +kernel
theorem dX12_back_176 : decode cX12_back 176 = .ok (.aload_n 0, 1) := by decide +kernel
theorem dX12_back_177 : decode cX12_back 177 = .ok (.getfield 47, 3) := by decide +kernel
theorem dX12_back_180 : decode cX12_back 180 = .ok (.iload_n 1, 1) := by decide +kernel
theorem dX12_back_181 : decode cX12_back 181 = .ok (.iaload, 1) := by decide +kernel
theorem dX12_back_182 : decode cX12_back 182 = .ok (.istore_n 3, 1) := by decide +kernel
theorem dX12_back_183 : decode cX12_back 183 = .ok (.aload_n 0, 1) := by decide +kernel
theorem dX12_back_184 : decode cX12_back 184 = .ok (.getfield 219, 3) := by decide +kernel
theorem dX12_back_187 : decode cX12_back 187 = .ok (.aload_n 0, 1) := by decide +kernel
theorem dX12_back_188 : decode cX12_back 188 = .ok (.getfield 50, 3) := by decide +kernel
theorem dX12_back_191 : decode cX12_back 191 = .ok (.iload_n 1, 1) := by decide +kernel
theorem dX12_back_192 : decode cX12_back 192 = .ok (.iaload, 1) := by decide +kernel
theorem dX12_back_193 : decode cX12_back 193 = .ok (.if_icmp .le 17, 3) := by decide +kernel
theorem dX12_back_196 : decode cX12_back 196 = .ok (.aload_n 0, 1) := by decide +kernel
theorem dX12_back_197 : decode cX12_back 197 = .ok (.getfield 219, 3) := by decide +kernel
theorem dX12_back_200 : decode cX12_back 200 = .ok (.aload_n 0, 1) := by decide +kernel
theorem dX12_back_201 : decode cX12_back 201 = .ok (.getfield 50, 3) := by decide +kernel
theorem dX12_back_204 : decode cX12_back 204 = .ok (.iload_n 1, 1) := by decide +kernel
theorem dX12_back_205 : decode cX12_back 205 = .ok (.iaload, 1) := by decide +kernel
theorem dX12_back_206 : decode cX12_back 206 = .ok (.isub, 1) := by decide +kernel
theorem dX12_back_207 : decode cX12_back 207 = .ok (.goto 4, 3) := by decide +kernel
theorem dX12_back_210 : decode cX12_back 210 = .ok (.iconst 0, 1) := by decide +kernel
theorem dX12_back_211 : decode cX12_back 211 = .ok (.istore 4, 2) := by decide +kernel
theorem dX12_back_213 : decode cX12_back 213 = .ok (.aload_n 0, 1) := by decide +kernel
theorem dX12_back_214 : decode cX12_back 214 = .ok (.aload_n 0, 1) := by decide +kernel
theorem dX12_back_215 : decode cX12_back 215 = .ok (.getfield 35, 3) := by decide +kernel
theorem dX12_back_218 : decode cX12_back 218 = .ok (.iload_n 1, 1) := by decide +kernel
theorem dX12_back_219 : decode cX12_back 219 = .ok (.iaload, 1) := by decide +kernel
theorem dX12_back_220 : decode cX12_back 220 = .ok (.iload_n 1, 1) := by decide +kernel
theorem dX12_back_221 : decode cX12_back 221 = .ok (.iload_n 3, 1) := by decide +kernel
theorem dX12_back_222 : decode cX12_back 222 = .ok (.iload 4, 2) := by decide +kernel
theorem dX12_back_224 : decode cX12_back 224 = .ok (.invokevirtual 458, 3) := by decide +kernel
theorem dX12_back_227 : decode cX12_back 227 = .ok (.aload_n 0, 1) := by decide +kernel
theorem dX12_back_228 : decode cX12_back 228 = .ok (.bipush 102, 2) := by decide +kernel
theorem dX12_back_230 : decode cX12_back 230 = .ok (.iconst 0, 1) := by decide +kernel
theorem dX12_back_231 : decode cX12_back 231 = .ok (.ldc_w 482, 3) := by decide +kernel
theorem dX12_back_234 : decode cX12_back 234 = .ok (.iconst 0, 1) := by decide +kernel
theorem dX12_back_235 : decode cX12_back 235 = .ok (.invokevirtual 475, 3) := by decide +kernel
theorem dX12_back_238 : decode cX12_back 238 = .ok (.istore 5, 2) := by decide +kernel
theorem dX12_back_240 : decode cX12_back 240 = .ok (.aload_n 0, 1) := by decide +kernel
theorem dX12_back_241 : decode cX12_back 241 = .ok (.bipush 111, 2) := by decide +kernel
theorem dX12_back_243 : decode cX12_back 243 = .ok (.invokevirtual 465, 3) := by decide +kernel
theorem dX12_back_246 : decode cX12_back 246 = .ok (.istore 6, 2) := by decide +kernel
theorem dX12_back_248 : decode cX12_back 248 = .ok (.iload_n 2, 1) := by decide +kernel
theorem dX12_back_249 : decode cX12_back 249 = .ok (.aload_n 0, 1) := by decide +kernel
theorem dX12_back_250 : decode cX12_back 250 = .ok (.bipush 112, 2) := by decide +kernel
theorem dX12_back_252 : decode cX12_back 252 = .ok (.iconst 0, 1) := by decide +kernel
theorem dX12_back_253 : decode cX12_back 253 = .ok (.ldc_w 482, 3) := by decide +kernel
theorem dX12_back_256 : decode cX12_back 256 = .ok (.iconst 0, 1) := by decide +kernel
theorem dX12_back_257 : decode cX12_back 257 = .ok (.invokevirtual 475, 3) := by decide +kernel
theorem dX12_back_260 : decode cX12_back 260 = .ok (.imul, 1) := by decide +kernel
theorem dX12_back_261 : decode cX12_back 261 = .ok (.iload 6, 2) := by decide +kernel
theorem dX12_back_263 : decode cX12_back 263 = .ok (.ifCond .eq 7, 3) := by decide +kernel
theorem dX12_back_266 : decode cX12_back 266 = .ok (.iconst 0, 1) := by decide +kernel
theorem dX12_back_267 : decode cX12_back 267 = .ok (.goto 5, 3) := by decide +kernel
theorem dX12_back_270 : decode cX12_back 270 = .ok (.iload 5, 2) := by decide +kernel
theorem dX12_back_272 : decode cX12_back 272 = .ok (.iadd, 1) := by decide +kernel
theorem dX12_back_273 : decode cX12_back 273 = .ok (.istore 7, 2) := by decide +kernel
theorem dX12_back_275 : decode cX12_back 275 = .ok (.aload_n 0, 1) := by decide +kernel
theorem dX12_back_276 : decode cX12_back 276 = .ok (.getfield 62, 3) := by decide +kernel
theorem dX12_back_279 : decode cX12_back 279 = .ok (.iload_n 1, 1) := by decide +kernel
theorem dX12_back_280 : decode cX12_back 280 = .ok (.aload_n 0, 1) := by decide +kernel
theorem dX12_back_281 : decode cX12_back 281 = .ok (.bipush 119, 2) := by decide +kernel
theorem dX12_back_283 : decode cX12_back 283 = .ok (.invokevirtual 465, 3) := by decide +kernel
theorem dX12_back_286 : decode cX12_back 286 = .ok (.bastore, 1) := by decide +kernel
theorem dX12_back_287 : decode cX12_back 287 = .ok (.aload_n 0, 1) := by decide +kernel
theorem dX12_back_288 : decode cX12_back 288 = .ok (.iload_n 1, 1) := by decide +kernel
theorem dX12_back_289 : decode cX12_back 289 = .ok (.iconst 0, 1) := by decide +kernel
theorem dX12_back_290 : decode cX12_back 290 = .ok (.invokevirtual 479, 3) := by decide +kernel
theorem dX12_back_293 : decode cX12_back 293 = .ok (.aload_n 0, 1) := by decide +kernel
theorem dX12_back_294 : decode cX12_back 294 = .ok (.getfield 171, 3) := by decide +kernel
theorem dX12_back_297 : decode cX12_back 297 = .ok (.aload_n 0, 1) := by decide +kernel
theorem dX12_back_298 : decode cX12_back 298 = .ok (.getfield 449, 3) := by decide +kernel
theorem dX12_back_301 : decode cX12_back 301 = .ok (.iconst 1, 1) := by decide +kernel
theorem dX12_back_302 : decode cX12_back 302 = .ok (.isub, 1) := by decide +kernel
theorem dX12_back_303 : decode cX12_back 303 = .ok (.iconst 1, 1) := by decide +kernel
theorem dX12_back_304 : decode cX12_back 304 = .ok (.bastore, 1) := by decide +kernel
theorem dX12_back_305 : decode cX12_back 305 = .ok (.aload_n 0, 1) := by decide +kernel
theorem dX12_back_306 : decode cX12_back 306 = .ok (.getfield 165, 3) := by decide +kernel
theorem dX12_back_309 : decode cX12_back 309 = .ok (.aload_n 0, 1) := by decide +kernel
theorem dX12_back_310 : decode cX12_back 310 = .ok (.getfield 449, 3) := by decide +kernel
theorem dX12_back_313 : decode cX12_back 313 = .ok (.iconst 1, 1) := by decide +kernel
theorem dX12_back_314 : decode cX12_back 314 = .ok (.isub, 1) := by decide +kernel
theorem dX12_back_315 : decode cX12_back 315 = .ok (.iload_n 3, 1) := by decide +kernel
theorem dX12_back_316 : decode cX12_back 316 = .ok (.iastore, 1) := by decide +kernel
theorem dX12_back_317 : decode cX12_back 317 = .ok (.aload_n 0, 1) := by decide +kernel
theorem dX12_back_318 : decode cX12_back 318 = .ok (.getfield 168, 3) := by decide +kernel
theorem dX12_back_321 : decode cX12_back 321 = .ok (.aload_n 0, 1) := by decide +kernel
theorem dX12_back_322 : decode cX12_back 322 = .ok (.getfield 449, 3) := by decide +kernel
theorem dX12_back_325 : decode cX12_back 325 = .ok (.iconst 1, 1) := by decide +kernel
theorem dX12_back_326 : decode cX12_back 326 = .ok (.isub, 1) := by decide +kernel
theorem dX12_back_327 : decode cX12_back 327 = .ok (.iload 5, 2) := by decide +kernel
theorem dX12_back_329 : decode cX12_back 329 = .ok (.ifCond .ne 7, 3) := by decide +kernel
theorem dX12_back_332 : decode cX12_back 332 = .ok (.iconst 0, 1) := by decide +kernel
theorem dX12_back_333 : decode cX12_back 333 = .ok (.goto 13, 3) := by decide +kernel
theorem dX12_back_336 : decode cX12_back 336 = .ok (.iload 6, 2) := by decide +kernel
theorem dX12_back_338 : decode cX12_back 338 = .ok (.ifCond .eq 7, 3) := by decide +kernel
theorem dX12_back_341 : decode cX12_back 341 = .ok (.iconst 1, 1) := by decide +kernel
theorem dX12_back_342 : decode cX12_back 342 = .ok (.goto 4, 3) := by decide +kernel
theorem dX12_back_345 : decode cX12_back 345 = .ok (.iconst 2, 1) := by decide +kernel
theorem dX12_back_346 : decode cX12_back 346 = .ok (.iastore, 1) := by decide +kernel
theorem dX12_back_347 : decode cX12_back 347 = .ok (.aload_n 0, 1) := by decide +kernel
theorem dX12_back_348 : decode cX12_back 348 = .ok (.getfield 174, 3) := by decide +kernel
theorem dX12_back_351 : decode cX12_back 351 = .ok (.aload_n 0, 1) := by decide +kernel
theorem dX12_back_352 : decode cX12_back 352 = .ok (.getfield 449, 3) := by decide +kernel
theorem dX12_back_355 : decode cX12_back 355 = .ok (.iconst 1, 1) := by decide +kernel
theorem dX12_back_356 : decode cX12_back 356 = .ok (.isub, 1) := by decide +kernel
theorem dX12_back_357 : decode cX12_back 357 = .ok (.iload 4, 2) := by decide +kernel
theorem dX12_back_359 : decode cX12_back 359 = .ok (.ifCond .le 7, 3) := by decide +kernel
theorem dX12_back_362 : decode cX12_back 362 = .ok (.iconst 1, 1) := by decide +kernel
theorem dX12_back_363 : decode cX12_back 363 = .ok (.goto 4, 3) := by decide +kernel
theorem dX12_back_366 : decode cX12_back 366 = .ok (.iconst 0, 1) := by decide +kernel
theorem dX12_back_367 : decode cX12_back 367 = .ok (.bastore, 1) := by decide +kernel
theorem dX12_back_368 : decode cX12_back 368 = .ok (.aload_n 0, 1) := by decide +kernel
theorem dX12_back_369 : decode cX12_back 369 = .ok (.iload_n 1, 1) := by decide +kernel
theorem dX12_back_370 : decode cX12_back 370 = .ok (.iconst 0, 1) := by decide +kernel
theorem dX12_back_371 : decode cX12_back 371 = .ok (.invokevirtual 483, 3) := by decide +kernel
theorem dX12_back_374 : decode cX12_back 374 = .ok (.aload_n 0, 1) := by decide +kernel
theorem dX12_back_375 : decode cX12_back 375 = .ok (.getfield 78, 3) := by decide +kernel
theorem dX12_back_378 : decode cX12_back 378 = .ok (.iload_n 3, 1) := by decide +kernel
theorem dX12_back_379 : decode cX12_back 379 = .ok (.dup2, 1) := by decide +kernel
theorem dX12_back_380 : decode cX12_back 380 = .ok (.iaload, 1) := by decide +kernel
theorem dX12_back_381 : decode cX12_back 381 = .ok (.iload 7, 2) := by decide +kernel
theorem dX12_back_383 : decode cX12_back 383 = .ok (.iadd, 1) := by decide +kernel
theorem dX12_back_384 : decode cX12_back 384 = .ok (.iastore, 1) := by decide +kernel
theorem dX12_back_385 : decode cX12_back 385 = .ok (.iload 7, 2) := by decide +kernel
theorem dX12_back_387 : decode cX12_back 387 = .ok (.ireturn, 1) := by decide +kernel
theorem dX12_comes_0 : decode cX12_comes 0 = .ok (.aload_n 0, 1) := by decide +kernel
theorem dX12_comes_1 : decode cX12_comes 1 = .ok (.getfield 44, 3) := by decide +kernel
theorem dX12_comes_4 : decode cX12_comes 4 = .ok (.iload_n 1, 1) := by decide +kernel
theorem dX12_comes_5 : decode cX12_comes 5 = .ok (.iload_n 2, 1) := by decide +kernel
theorem dX12_comes_6 : decode cX12_comes 6 = .ok (.iastore, 1) := by decide +kernel
theorem dX12_comes_7 : decode cX12_comes 7 = .ok (.aload_n 0, 1) := by decide +kernel
theorem dX12_comes_8 : decode cX12_comes 8 = .ok (.getfield 47, 3) := by decide +kernel
theorem dX12_comes_11 : decode cX12_comes 11 = .ok (.iload_n 1, 1) := by decide +kernel
theorem dX12_comes_12 : decode cX12_comes 12 = .ok (.iconst (-1), 1) := by decide +kernel
theorem dX12_comes_13 : decode cX12_comes 13 = .ok (.iastore, 1) := by decide +kernel
theorem dX12_comes_14 : decode cX12_comes 14 = .ok (.aload_n 0, 1) := by decide +kernel
theorem dX12_comes_15 : decode cX12_comes 15 = .ok (.getfield 50, 3) := by decide +kernel
theorem dX12_comes_18 : decode cX12_comes 18 = .ok (.iload_n 1, 1) := by decide +kernel
theorem dX12_comes_19 : decode cX12_comes 19 = .ok (.iconst (-1), 1) := by decide +kernel
theorem dX12_comes_20 : decode cX12_comes 20 = .ok (.iastore, 1) := by decide +kernel
theorem dX12_comes_21 : decode cX12_comes 21 = .ok (.aload_n 0, 1) := by decide +kernel
theorem dX12_comes_22 : decode cX12_comes 22 = .ok (.getfield 59, 3) := by decide +kernel
theorem dX12_comes_25 : decode cX12_comes 25 = .ok (.iload_n 1, 1) := by decide +kernel
theorem dX12_comes_26 : decode cX12_comes 26 = .ok (.aload_n 0, 1) := by decide +kernel
theorem dX12_comes_27 : decode cX12_comes 27 = .ok (.getfield 219, 3) := by decide +kernel
theorem dX12_comes_30 : decode cX12_comes 30 = .ok (.iastore, 1) := by decide +kernel
theorem dX12_comes_31 : decode cX12_comes 31 = .ok (.return_, 1) := by decide +kernel
theorem dX12_lost_0 : decode cX12_lost 0 = .ok (.aload_n 0, 1) := by decide +kernel
theorem dX12_lost_1 : decode cX12_lost 1 = .ok (.iload_n 1, 1) := by decide +kernel
theorem dX12_lost_2 : decode cX12_lost 2 = .ok (.invokevirtual 443, 3) := by decide +kernel
theorem dX12_lost_5 : decode cX12_lost 5 = .ok (.ifCond .eq 13, 3) := by decide +kernel
theorem dX12_lost_8 : decode cX12_lost 8 = .ok (.aload_n 0, 1) := by decide +kernel
theorem dX12_lost_9 : decode cX12_lost 9 = .ok (.getfield 44, 3) := by decide +kernel
theorem dX12_lost_12 : decode cX12_lost 12 = .ok (.iload_n 1, 1) := by decide +kernel
theorem dX12_lost_13 : decode cX12_lost 13 = .ok (.iaload, 1) := by decide +kernel
theorem dX12_lost_14 : decode cX12_lost 14 = .ok (.iconst 1, 1) := by decide +kernel
theorem dX12_lost_15 : decode cX12_lost 15 = .ok (.if_icmp .eq 5, 3) := by decide +kernel
theorem dX12_lost_18 : decode cX12_lost 18 = .ok (.iconst (-1), 1) := by decide +kernel
theorem dX12_lost_19 : decode cX12_lost 19 = .ok (.ireturn, 1) := by decide +kernel
theorem dX12_lost_20 : decode cX12_lost 20 = .ok (.iconst 0, 1) := by decide +kernel
theorem dX12_lost_21 : decode cX12_lost 21 = .ok (.istore_n 2, 1) := by decide +kernel
theorem dX12_lost_22 : decode cX12_lost 22 = .ok (.iconst 0, 1) := by decide +kernel
theorem dX12_lost_23 : decode cX12_lost 23 = .ok (.istore_n 3, 1) := by decide +kernel
theorem dX12_lost_24 : decode cX12_lost 24 = .ok (.iload_n 3, 1) := by decide +kernel
theorem dX12_lost_25 : decode cX12_lost 25 = .ok (.bipush 6, 2) := by decide +kernel
theorem dX12_lost_27 : decode cX12_lost 27 = .ok (.if_icmp .ge 23, 3) := by decide +kernel
theorem dX12_lost_30 : decode cX12_lost 30 = .ok (.iload_n 2, 1) := by decide +kernel
theorem dX12_lost_31 : decode cX12_lost 31 = .ok (.aload_n 0, 1) := by decide +kernel
theorem dX12_lost_32 : decode cX12_lost 32 = .ok (.getfield 66, 3) := by decide +kernel
theorem dX12_lost_35 : decode cX12_lost 35 = .ok (.bipush 6, 2) := by decide +kernel
theorem dX12_lost_37 : decode cX12_lost 37 = .ok (.iload_n 1, 1) := by decide +kernel
theorem dX12_lost_38 : decode cX12_lost 38 = .ok (.imul, 1) := by decide +kernel
theorem dX12_lost_39 : decode cX12_lost 39 = .ok (.iload_n 3, 1) := by decide +kernel
theorem dX12_lost_40 : decode cX12_lost 40 = .ok (.iadd, 1) := by decide +kernel
theorem dX12_lost_41 : decode cX12_lost 41 = .ok (.iaload, 1) := by decide +kernel
theorem dX12_lost_42 : decode cX12_lost 42 = .ok (.iadd, 1) := by decide +kernel
theorem dX12_lost_43 : decode cX12_lost 43 = .ok (.istore_n 2, 1) := by decide +kernel
theorem dX12_lost_44 : decode cX12_lost 44 = .ok (.iinc 3 1, 3) := by decide +kernel
theorem dX12_lost_47 : decode cX12_lost 47 = .ok (.goto (-23), 3) := by decide +kernel
theorem dX12_lost_50 : decode cX12_lost 50 = .ok (.aload_n 0, 1) := by decide +kernel
theorem dX12_lost_51 : decode cX12_lost 51 = .ok (.getfield 47, 3) := by decide +kernel
theorem dX12_lost_54 : decode cX12_lost 54 = .ok (.iload_n 1, 1) := by decide +kernel
theorem dX12_lost_55 : decode cX12_lost 55 = .ok (.iaload, 1) := by decide +kernel
theorem dX12_lost_56 : decode cX12_lost 56 = .ok (.istore_n 3, 1) := by decide +kernel
theorem dX12_lost_57 : decode cX12_lost 57 = .ok (.aload_n 0, 1) := by decide +kernel
theorem dX12_lost_58 : decode cX12_lost 58 = .ok (.aload_n 0, 1) := by decide +kernel
theorem dX12_lost_59 : decode cX12_lost 59 = .ok (.getfield 35, 3) := by decide +kernel
theorem dX12_lost_62 : decode cX12_lost 62 = .ok (.iload_n 1, 1) := by decide +kernel
theorem dX12_lost_63 : decode cX12_lost 63 = .ok (.iaload, 1) := by decide +kernel
theorem dX12_lost_64 : decode cX12_lost 64 = .ok (.iload_n 1, 1) := by decide +kernel
theorem dX12_lost_65 : decode cX12_lost 65 = .ok (.iload_n 3, 1) := by decide +kernel
theorem dX12_lost_66 : decode cX12_lost 66 = .ok (.iconst 0, 1) := by decide +kernel
theorem dX12_lost_67 : decode cX12_lost 67 = .ok (.invokevirtual 458, 3) := by decide +kernel
theorem dX12_lost_70 : decode cX12_lost 70 = .ok (.iload_n 2, 1) := by decide +kernel
theorem dX12_lost_71 : decode cX12_lost 71 = .ok (.aload_n 0, 1) := by decide +kernel
theorem dX12_lost_72 : decode cX12_lost 72 = .ok (.bipush 112, 2) := by decide +kernel
theorem dX12_lost_74 : decode cX12_lost 74 = .ok (.iconst 0, 1) := by decide +kernel
theorem dX12_lost_75 : decode cX12_lost 75 = .ok (.ldc_w 482, 3) := by decide +kernel
theorem dX12_lost_78 : decode cX12_lost 78 = .ok (.iconst 0, 1) := by decide +kernel
theorem dX12_lost_79 : decode cX12_lost 79 = .ok (.invokevirtual 475, 3) := by decide +kernel
theorem dX12_lost_82 : decode cX12_lost 82 = .ok (.imul, 1) := by decide +kernel
theorem dX12_lost_83 : decode cX12_lost 83 = .ok (.istore 4, 2) := by decide +kernel
theorem dX12_lost_85 : decode cX12_lost 85 = .ok (.aload_n 0, 1) := by decide +kernel
theorem dX12_lost_86 : decode cX12_lost 86 = .ok (.getfield 78, 3) := by decide +kernel
theorem dX12_lost_89 : decode cX12_lost 89 = .ok (.iload_n 3, 1) := by decide +kernel
theorem dX12_lost_90 : decode cX12_lost 90 = .ok (.dup2, 1) := by decide +kernel
theorem dX12_lost_91 : decode cX12_lost 91 = .ok (.iaload, 1) := by decide +kernel
theorem dX12_lost_92 : decode cX12_lost 92 = .ok (.iload 4, 2) := by decide +kernel
theorem dX12_lost_94 : decode cX12_lost 94 = .ok (.iadd, 1) := by decide +kernel
theorem dX12_lost_95 : decode cX12_lost 95 = .ok (.iastore, 1) := by decide +kernel
theorem dX12_lost_96 : decode cX12_lost 96 = .ok (.aload_n 0, 1) := by decide +kernel
theorem dX12_lost_97 : decode cX12_lost 97 = .ok (.iload_n 1, 1) := by decide +kernel
theorem dX12_lost_98 : decode cX12_lost 98 = .ok (.bipush 20, 2) := by decide +kernel
theorem dX12_lost_100 : decode cX12_lost 100 = .ok (.invokevirtual 479, 3) := by decide +kernel
theorem dX12_lost_103 : decode cX12_lost 103 = .ok (.aload_n 0, 1) := by decide +kernel
theorem dX12_lost_104 : decode cX12_lost 104 = .ok (.iload_n 1, 1) := by decide +kernel
theorem dX12_lost_105 : decode cX12_lost 105 = .ok (.iconst 2, 1) := by decide +kernel
theorem dX12_lost_106 : decode cX12_lost 106 = .ok (.invokevirtual 483, 3) := by decide +kernel
theorem dX12_lost_109 : decode cX12_lost 109 = .ok (.iload 4, 2) := by decide +kernel
theorem dX12_lost_111 : decode cX12_lost 111 = .ok (.ireturn, 1) := by decide +kernel
theorem dX12_wash_0 : decode cX12_wash 0 = .ok (.aload_n 0, 1) := by decide +kernel
theorem dX12_wash_1 : decode cX12_wash 1 = .ok (.iload_n 1, 1) := by decide +kernel
theorem dX12_wash_2 : decode cX12_wash 2 = .ok (.invokevirtual 443, 3) := by decide +kernel
theorem dX12_wash_5 : decode cX12_wash 5 = .ok (.ifCond .eq 12, 3) := by decide +kernel
theorem dX12_wash_8 : decode cX12_wash 8 = .ok (.aload_n 0, 1) := by decide +kernel
theorem dX12_wash_9 : decode cX12_wash 9 = .ok (.getfield 62, 3) := by decide +kernel
theorem dX12_wash_12 : decode cX12_wash 12 = .ok (.iload_n 1, 1) := by decide +kernel
theorem dX12_wash_13 : decode cX12_wash 13 = .ok (.baload, 1) := by decide +kernel
theorem dX12_wash_14 : decode cX12_wash 14 = .ok (.ifCond .ne 5, 3) := by decide +kernel
theorem dX12_wash_17 : decode cX12_wash 17 = .ok (.iconst 0, 1) := by decide +kernel
theorem dX12_wash_18 : decode cX12_wash 18 = .ok (.ireturn, 1) := by decide +kernel
theorem dX12_wash_19 : decode cX12_wash 19 = .ok (.aload_n 0, 1) := by decide +kernel
theorem dX12_wash_20 : decode cX12_wash 20 = .ok (.getfield 62, 3) := by decide +kernel
theorem dX12_wash_23 : decode cX12_wash 23 = .ok (.iload_n 1, 1) := by decide +kernel
theorem dX12_wash_24 : decode cX12_wash 24 = .ok (.iconst 0, 1) := by decide +kernel
theorem dX12_wash_25 : decode cX12_wash 25 = .ok (.bastore, 1) := by decide +kernel
theorem dX12_wash_26 : decode cX12_wash 26 = .ok (.iconst 1, 1) := by decide +kernel
theorem dX12_wash_27 : decode cX12_wash 27 = .ok (.ireturn, 1) := by decide +kernel
theorem dX12_bagOf_0 : decode cX12_bagOf 0 = .ok (.aload_n 0, 1) := by decide +kernel
theorem dX12_bagOf_1 : decode cX12_bagOf 1 = .ok (.getfield 247, 3) := by decide +kernel
theorem dX12_bagOf_4 : decode cX12_bagOf 4 = .ok (.istore_n 2, 1) := by decide +kernel
theorem dX12_bagOf_5 : decode cX12_bagOf 5 = .ok (.iconst 0, 1) := by decide +kernel
theorem dX12_bagOf_6 : decode cX12_bagOf 6 = .ok (.istore_n 3, 1) := by decide +kernel
theorem dX12_bagOf_7 : decode cX12_bagOf 7 = .ok (.iload_n 3, 1) := by decide +kernel
theorem dX12_bagOf_8 : decode cX12_bagOf 8 = .ok (.bipush 6, 2) := by decide +kernel
theorem dX12_bagOf_10 : decode cX12_bagOf 10 = .ok (.if_icmp .ge 40, 3) := by decide +kernel
theorem dX12_bagOf_13 : decode cX12_bagOf 13 = .ok (.iload_n 2, 1) := by decide +kernel
theorem dX12_bagOf_14 : decode cX12_bagOf 14 = .ok (.aload_n 0, 1) := by decide +kernel
theorem dX12_bagOf_15 : decode cX12_bagOf 15 = .ok (.getfield 66, 3) := by decide +kernel
theorem dX12_bagOf_18 : decode cX12_bagOf 18 = .ok (.bipush 6, 2) := by decide +kernel
theorem dX12_bagOf_20 : decode cX12_bagOf 20 = .ok (.iload_n 1, 1) := by decide +kernel
theorem dX12_bagOf_21 : decode cX12_bagOf 21 = .ok (.imul, 1) := by decide +kernel
theorem dX12_bagOf_22 : decode cX12_bagOf 22 = .ok (.iload_n 3, 1) := by decide +kernel
theorem dX12_bagOf_23 : decode cX12_bagOf 23 = .ok (.iadd, 1) := by decide +kernel
theorem dX12_bagOf_24 : decode cX12_bagOf 24 = .ok (.iaload, 1) := by decide +kernel
theorem dX12_bagOf_25 : decode cX12_bagOf 25 = .ok (.aload_n 0, 1) := by decide +kernel
theorem dX12_bagOf_26 : decode cX12_bagOf 26 = .ok (.getfield 32, 3) := by decide +kernel
theorem dX12_bagOf_29 : decode cX12_bagOf 29 = .ok (.bipush 6, 2) := by decide +kernel
theorem dX12_bagOf_31 : decode cX12_bagOf 31 = .ok (.aload_n 0, 1) := by decide +kernel
theorem dX12_bagOf_32 : decode cX12_bagOf 32 = .ok (.getfield 35, 3) := by decide +kernel
theorem dX12_bagOf_35 : decode cX12_bagOf 35 = .ok (.iload_n 1, 1) := by decide +kernel
theorem dX12_bagOf_36 : decode cX12_bagOf 36 = .ok (.iaload, 1) := by decide +kernel
theorem dX12_bagOf_37 : decode cX12_bagOf 37 = .ok (.imul, 1) := by decide +kernel
theorem dX12_bagOf_38 : decode cX12_bagOf 38 = .ok (.iload_n 3, 1) := by decide +kernel
theorem dX12_bagOf_39 : decode cX12_bagOf 39 = .ok (.iadd, 1) := by decide +kernel
theorem dX12_bagOf_40 : decode cX12_bagOf 40 = .ok (.iaload, 1) := by decide +kernel
theorem dX12_bagOf_41 : decode cX12_bagOf 41 = .ok (.imul, 1) := by decide +kernel
theorem dX12_bagOf_42 : decode cX12_bagOf 42 = .ok (.iadd, 1) := by decide +kernel
theorem dX12_bagOf_43 : decode cX12_bagOf 43 = .ok (.istore_n 2, 1) := by decide +kernel
theorem dX12_bagOf_44 : decode cX12_bagOf 44 = .ok (.iinc 3 1, 3) := by decide +kernel
theorem dX12_bagOf_47 : decode cX12_bagOf 47 = .ok (.goto (-40), 3) := by decide +kernel
theorem dX12_bagOf_50 : decode cX12_bagOf 50 = .ok (.iload_n 2, 1) := by decide +kernel
theorem dX12_bagOf_51 : decode cX12_bagOf 51 = .ok (.ireturn, 1) := by decide +kernel
theorem dX12_toyIs_0 : decode cX12_toyIs 0 = .ok (.aload_n 0, 1) := by decide +kernel
theorem dX12_toyIs_1 : decode cX12_toyIs 1 = .ok (.iload_n 1, 1) := by decide +kernel
theorem dX12_toyIs_2 : decode cX12_toyIs 2 = .ok (.invokevirtual 443, 3) := by decide +kernel
theorem dX12_toyIs_5 : decode cX12_toyIs 5 = .ok (.ifCond .ne 5, 3) := by decide +kernel
theorem dX12_toyIs_8 : decode cX12_toyIs 8 = .ok (.iconst (-1), 1) := by decide +kernel
theorem dX12_toyIs_9 : decode cX12_toyIs 9 = .ok (.ireturn, 1) := by decide +kernel
theorem dX12_toyIs_10 : decode cX12_toyIs 10 = .ok (.iload_n 2, 1) := by decide +kernel
theorem dX12_toyIs_11 : decode cX12_toyIs 11 = .ok (.bipush 10, 2) := by decide +kernel
theorem dX12_toyIs_13 : decode cX12_toyIs 13 = .ok (.isub, 1) := by decide +kernel
theorem dX12_toyIs_14 : decode cX12_toyIs 14 = .ok (.invokestatic 234, 3) := by decide +kernel
theorem dX12_toyIs_17 : decode cX12_toyIs 17 = .ok (.ifCond .eq 18, 3) := by decide +kernel
theorem dX12_toyIs_20 : decode cX12_toyIs 20 = .ok (.aload_n 0, 1) := by decide +kernel
theorem dX12_toyIs_21 : decode cX12_toyIs 21 = .ok (.getfield 66, 3) := by decide +kernel
theorem dX12_toyIs_24 : decode cX12_toyIs 24 = .ok (.bipush 6, 2) := by decide +kernel
theorem dX12_toyIs_26 : decode cX12_toyIs 26 = .ok (.iload_n 1, 1) := by decide +kernel
theorem dX12_toyIs_27 : decode cX12_toyIs 27 = .ok (.imul, 1) := by decide +kernel
theorem dX12_toyIs_28 : decode cX12_toyIs 28 = .ok (.iload_n 2, 1) := by decide +kernel
theorem dX12_toyIs_29 : decode cX12_toyIs 29 = .ok (.iadd, 1) := by decide +kernel
theorem dX12_toyIs_30 : decode cX12_toyIs 30 = .ok (.bipush 10, 2) := by decide +kernel
theorem dX12_toyIs_32 : decode cX12_toyIs 32 = .ok (.isub, 1) := by decide +kernel
theorem dX12_toyIs_33 : decode cX12_toyIs 33 = .ok (.iaload, 1) := by decide +kernel
theorem dX12_toyIs_34 : decode cX12_toyIs 34 = .ok (.ireturn, 1) := by decide +kernel
theorem dX12_toyIs_35 : decode cX12_toyIs 35 = .ok (.iload_n 2, 1) := by decide +kernel
theorem dX12_toyIs_36 : decode cX12_toyIs 36 = .ok (.tableswitch 128 0 8 #[52, 59, 66, 73, 80, 87, 102, 116, 122], 52) := by decide +kernel
theorem dX12_toyIs_88 : decode cX12_toyIs 88 = .ok (.aload_n 0, 1) := by decide +kernel
theorem dX12_toyIs_89 : decode cX12_toyIs 89 = .ok (.getfield 44, 3) := by decide +kernel
theorem dX12_toyIs_92 : decode cX12_toyIs 92 = .ok (.iload_n 1, 1) := by decide +kernel
theorem dX12_toyIs_93 : decode cX12_toyIs 93 = .ok (.iaload, 1) := by decide +kernel
theorem dX12_toyIs_94 : decode cX12_toyIs 94 = .ok (.ireturn, 1) := by decide +kernel
theorem dX12_toyIs_95 : decode cX12_toyIs 95 = .ok (.aload_n 0, 1) := by decide +kernel
theorem dX12_toyIs_96 : decode cX12_toyIs 96 = .ok (.getfield 47, 3) := by decide +kernel
theorem dX12_toyIs_99 : decode cX12_toyIs 99 = .ok (.iload_n 1, 1) := by decide +kernel
theorem dX12_toyIs_100 : decode cX12_toyIs 100 = .ok (.iaload, 1) := by decide +kernel
theorem dX12_toyIs_101 : decode cX12_toyIs 101 = .ok (.ireturn, 1) := by decide +kernel
theorem dX12_toyIs_102 : decode cX12_toyIs 102 = .ok (.aload_n 0, 1) := by decide +kernel
theorem dX12_toyIs_103 : decode cX12_toyIs 103 = .ok (.getfield 50, 3) := by decide +kernel
theorem dX12_toyIs_106 : decode cX12_toyIs 106 = .ok (.iload_n 1, 1) := by decide +kernel
theorem dX12_toyIs_107 : decode cX12_toyIs 107 = .ok (.iaload, 1) := by decide +kernel
theorem dX12_toyIs_108 : decode cX12_toyIs 108 = .ok (.ireturn, 1) := by decide +kernel
theorem dX12_toyIs_109 : decode cX12_toyIs 109 = .ok (.aload_n 0, 1) := by decide +kernel
theorem dX12_toyIs_110 : decode cX12_toyIs 110 = .ok (.getfield 41, 3) := by decide +kernel
theorem dX12_toyIs_113 : decode cX12_toyIs 113 = .ok (.iload_n 1, 1) := by decide +kernel
theorem dX12_toyIs_114 : decode cX12_toyIs 114 = .ok (.iaload, 1) := by decide +kernel
theorem dX12_toyIs_115 : decode cX12_toyIs 115 = .ok (.ireturn, 1) := by decide +kernel
theorem dX12_toyIs_116 : decode cX12_toyIs 116 = .ok (.aload_n 0, 1) := by decide +kernel
theorem dX12_toyIs_117 : decode cX12_toyIs 117 = .ok (.getfield 56, 3) := by decide +kernel
theorem dX12_toyIs_120 : decode cX12_toyIs 120 = .ok (.iload_n 1, 1) := by decide +kernel
theorem dX12_toyIs_121 : decode cX12_toyIs 121 = .ok (.iaload, 1) := by decide +kernel
theorem dX12_toyIs_122 : decode cX12_toyIs 122 = .ok (.ireturn, 1) := by decide +kernel
theorem dX12_toyIs_123 : decode cX12_toyIs 123 = .ok (.aload_n 0, 1) := by decide +kernel
theorem dX12_toyIs_124 : decode cX12_toyIs 124 = .ok (.getfield 62, 3) := by decide +kernel
theorem dX12_toyIs_127 : decode cX12_toyIs 127 = .ok (.iload_n 1, 1) := by decide +kernel
theorem dX12_toyIs_128 : decode cX12_toyIs 128 = .ok (.baload, 1) := by decide +kernel
theorem dX12_toyIs_129 : decode cX12_toyIs 129 = .ok (.ifCond .eq 7, 3) := by decide +kernel
theorem dX12_toyIs_132 : decode cX12_toyIs 132 = .ok (.iconst 1, 1) := by decide +kernel
theorem dX12_toyIs_133 : decode cX12_toyIs 133 = .ok (.goto 4, 3) := by decide +kernel
theorem dX12_toyIs_136 : decode cX12_toyIs 136 = .ok (.iconst 0, 1) := by decide +kernel
theorem dX12_toyIs_137 : decode cX12_toyIs 137 = .ok (.ireturn, 1) := by decide +kernel
theorem dX12_toyIs_138 : decode cX12_toyIs 138 = .ok (.aload_n 0, 1) := by decide +kernel
theorem dX12_toyIs_139 : decode cX12_toyIs 139 = .ok (.iload_n 1, 1) := by decide +kernel
theorem dX12_toyIs_140 : decode cX12_toyIs 140 = .ok (.invokevirtual 452, 3) := by decide +kernel
theorem dX12_toyIs_143 : decode cX12_toyIs 143 = .ok (.ifCond .eq 7, 3) := by decide +kernel
theorem dX12_toyIs_146 : decode cX12_toyIs 146 = .ok (.iconst 1, 1) := by decide +kernel
theorem dX12_toyIs_147 : decode cX12_toyIs 147 = .ok (.goto 4, 3) := by decide +kernel
theorem dX12_toyIs_150 : decode cX12_toyIs 150 = .ok (.iconst 0, 1) := by decide +kernel
theorem dX12_toyIs_151 : decode cX12_toyIs 151 = .ok (.ireturn, 1) := by decide +kernel
theorem dX12_toyIs_152 : decode cX12_toyIs 152 = .ok (.aload_n 0, 1) := by decide +kernel
theorem dX12_toyIs_153 : decode cX12_toyIs 153 = .ok (.iload_n 1, 1) := by decide +kernel
theorem dX12_toyIs_154 : decode cX12_toyIs 154 = .ok (.invokevirtual 390, 3) := by decide +kernel
theorem dX12_toyIs_157 : decode cX12_toyIs 157 = .ok (.ireturn, 1) := by decide +kernel
theorem dX12_toyIs_158 : decode cX12_toyIs 158 = .ok (.aload_n 0, 1) := by decide +kernel
theorem dX12_toyIs_159 : decode cX12_toyIs 159 = .ok (.iload_n 1, 1) := by decide +kernel
theorem dX12_toyIs_160 : decode cX12_toyIs 160 = .ok (.invokevirtual 486, 3) := by decide +kernel
theorem dX12_toyIs_163 : decode cX12_toyIs 163 = .ok (.ireturn, 1) := by decide +kernel
theorem dX12_toyIs_164 : decode cX12_toyIs 164 = .ok (.iconst (-1), 1) := by decide +kernel
theorem dX12_toyIs_165 : decode cX12_toyIs 165 = .ok (.ireturn, 1) := by decide +kernel
theorem dX12_goesOn_0 : decode cX12_goesOn 0 = .ok (.iconst 5, 1) := by decide +kernel
theorem dX12_goesOn_1 : decode cX12_goesOn 1 = .ok (.istore_n 2, 1) := by decide +kernel
theorem dX12_goesOn_2 : decode cX12_goesOn 2 = .ok (.iload_n 2, 1) := by decide +kernel
theorem dX12_goesOn_3 : decode cX12_goesOn 3 = .ok (.ifCond .lt 36, 3) := by decide +kernel
theorem dX12_goesOn_6 : decode cX12_goesOn 6 = .ok (.aload_n 0, 1) := by decide +kernel
theorem dX12_goesOn_7 : decode cX12_goesOn 7 = .ok (.getfield 177, 3) := by decide +kernel
theorem dX12_goesOn_10 : decode cX12_goesOn 10 = .ok (.iload_n 2, 1) := by decide +kernel
theorem dX12_goesOn_11 : decode cX12_goesOn 11 = .ok (.iaload, 1) := by decide +kernel
theorem dX12_goesOn_12 : decode cX12_goesOn 12 = .ok (.aload_n 0, 1) := by decide +kernel
theorem dX12_goesOn_13 : decode cX12_goesOn 13 = .ok (.getfield 66, 3) := by decide +kernel
theorem dX12_goesOn_16 : decode cX12_goesOn 16 = .ok (.bipush 6, 2) := by decide +kernel
theorem dX12_goesOn_18 : decode cX12_goesOn 18 = .ok (.iload_n 1, 1) := by decide +kernel
theorem dX12_goesOn_19 : decode cX12_goesOn 19 = .ok (.imul, 1) := by decide +kernel
theorem dX12_goesOn_20 : decode cX12_goesOn 20 = .ok (.iload_n 2, 1) := by decide +kernel
theorem dX12_goesOn_21 : decode cX12_goesOn 21 = .ok (.iadd, 1) := by decide +kernel
theorem dX12_goesOn_22 : decode cX12_goesOn 22 = .ok (.iaload, 1) := by decide +kernel
theorem dX12_goesOn_23 : decode cX12_goesOn 23 = .ok (.if_icmp .ne 16, 3) := by decide +kernel
theorem dX12_goesOn_26 : decode cX12_goesOn 26 = .ok (.aload_n 0, 1) := by decide +kernel
theorem dX12_goesOn_27 : decode cX12_goesOn 27 = .ok (.getfield 177, 3) := by decide +kernel
theorem dX12_goesOn_30 : decode cX12_goesOn 30 = .ok (.iload_n 2, 1) := by decide +kernel
theorem dX12_goesOn_31 : decode cX12_goesOn 31 = .ok (.iconst 0, 1) := by decide +kernel
theorem dX12_goesOn_32 : decode cX12_goesOn 32 = .ok (.iastore, 1) := by decide +kernel
theorem dX12_goesOn_33 : decode cX12_goesOn 33 = .ok (.iinc 2 (-1), 3) := by decide +kernel
theorem dX12_goesOn_36 : decode cX12_goesOn 36 = .ok (.goto (-34), 3) := by decide +kernel
theorem dX12_goesOn_39 : decode cX12_goesOn 39 = .ok (.iload_n 2, 1) := by decide +kernel
theorem dX12_goesOn_40 : decode cX12_goesOn 40 = .ok (.ifCond .ge 5, 3) := by decide +kernel
theorem dX12_goesOn_43 : decode cX12_goesOn 43 = .ok (.iconst 0, 1) := by decide +kernel
theorem dX12_goesOn_44 : decode cX12_goesOn 44 = .ok (.ireturn, 1) := by decide +kernel
theorem dX12_goesOn_45 : decode cX12_goesOn 45 = .ok (.aload_n 0, 1) := by decide +kernel
theorem dX12_goesOn_46 : decode cX12_goesOn 46 = .ok (.getfield 177, 3) := by decide +kernel
theorem dX12_goesOn_49 : decode cX12_goesOn 49 = .ok (.iload_n 2, 1) := by decide +kernel
theorem dX12_goesOn_50 : decode cX12_goesOn 50 = .ok (.dup2, 1) := by decide +kernel
theorem dX12_goesOn_51 : decode cX12_goesOn 51 = .ok (.iaload, 1) := by decide +kernel
theorem dX12_goesOn_52 : decode cX12_goesOn 52 = .ok (.iconst 1, 1) := by decide +kernel
theorem dX12_goesOn_53 : decode cX12_goesOn 53 = .ok (.iadd, 1) := by decide +kernel
theorem dX12_goesOn_54 : decode cX12_goesOn 54 = .ok (.iastore, 1) := by decide +kernel
theorem dX12_goesOn_55 : decode cX12_goesOn 55 = .ok (.iconst 1, 1) := by decide +kernel
theorem dX12_goesOn_56 : decode cX12_goesOn 56 = .ok (.ireturn, 1) := by decide +kernel
theorem dX12_weighs_0 : decode cX12_weighs 0 = .ok (.aload_n 0, 1) := by decide +kernel
theorem dX12_weighs_1 : decode cX12_weighs 1 = .ok (.iconst 0, 1) := by decide +kernel
theorem dX12_weighs_2 : decode cX12_weighs 2 = .ok (.putfield 489, 3) := by decide +kernel
theorem dX12_weighs_5 : decode cX12_weighs 5 = .ok (.aload_n 0, 1) := by decide +kernel
theorem dX12_weighs_6 : decode cX12_weighs 6 = .ok (.bipush 63, 2) := by decide +kernel
theorem dX12_weighs_8 : decode cX12_weighs 8 = .ok (.putfield 492, 3) := by decide +kernel
theorem dX12_weighs_11 : decode cX12_weighs 11 = .ok (.aload_n 0, 1) := by decide +kernel
theorem dX12_weighs_12 : decode cX12_weighs 12 = .ok (.bipush 63, 2) := by decide +kernel
theorem dX12_weighs_14 : decode cX12_weighs 14 = .ok (.putfield 495, 3) := by decide +kernel
theorem dX12_weighs_17 : decode cX12_weighs 17 = .ok (.aload_n 0, 1) := by decide +kernel
theorem dX12_weighs_18 : decode cX12_weighs 18 = .ok (.iconst (-1), 1) := by decide +kernel
theorem dX12_weighs_19 : decode cX12_weighs 19 = .ok (.putfield 498, 3) := by decide +kernel
theorem dX12_weighs_22 : decode cX12_weighs 22 = .ok (.iconst 0, 1) := by decide +kernel
theorem dX12_weighs_23 : decode cX12_weighs 23 = .ok (.istore 4, 2) := by decide +kernel
theorem dX12_weighs_25 : decode cX12_weighs 25 = .ok (.iload 4, 2) := by decide +kernel
theorem dX12_weighs_27 : decode cX12_weighs 27 = .ok (.bipush 6, 2) := by decide +kernel
theorem dX12_weighs_29 : decode cX12_weighs 29 = .ok (.if_icmp .ge 17, 3) := by decide +kernel
theorem dX12_weighs_32 : decode cX12_weighs 32 = .ok (.aload_n 0, 1) := by decide +kernel
theorem dX12_weighs_33 : decode cX12_weighs 33 = .ok (.getfield 177, 3) := by decide +kernel
theorem dX12_weighs_36 : decode cX12_weighs 36 = .ok (.iload 4, 2) := by decide +kernel
theorem dX12_weighs_38 : decode cX12_weighs 38 = .ok (.iconst 0, 1) := by decide +kernel
theorem dX12_weighs_39 : decode cX12_weighs 39 = .ok (.iastore, 1) := by decide +kernel
theorem dX12_weighs_40 : decode cX12_weighs 40 = .ok (.iinc 4 1, 3) := by decide +kernel
theorem dX12_weighs_43 : decode cX12_weighs 43 = .ok (.goto (-18), 3) := by decide +kernel
theorem dX12_weighs_46 : decode cX12_weighs 46 = .ok (.aload_n 0, 1) := by decide +kernel
theorem dX12_weighs_47 : decode cX12_weighs 47 = .ok (.iload_n 1, 1) := by decide +kernel
theorem dX12_weighs_48 : decode cX12_weighs 48 = .ok (.invokevirtual 486, 3) := by decide +kernel
theorem dX12_weighs_51 : decode cX12_weighs 51 = .ok (.istore 4, 2) := by decide +kernel
theorem dX12_weighs_53 : decode cX12_weighs 53 = .ok (.iconst 1, 1) := by decide +kernel
theorem dX12_weighs_54 : decode cX12_weighs 54 = .ok (.istore 5, 2) := by decide +kernel
theorem dX12_weighs_56 : decode cX12_weighs 56 = .ok (.iload 5, 2) := by decide +kernel
theorem dX12_weighs_58 : decode cX12_weighs 58 = .ok (.ifCond .eq 208, 3) := by decide +kernel
theorem dX12_weighs_61 : decode cX12_weighs 61 = .ok (.iload 4, 2) := by decide +kernel
theorem dX12_weighs_63 : decode cX12_weighs 63 = .ok (.istore 6, 2) := by decide +kernel
theorem dX12_weighs_65 : decode cX12_weighs 65 = .ok (.iconst 0, 1) := by decide +kernel
theorem dX12_weighs_66 : decode cX12_weighs 66 = .ok (.istore 7, 2) := by decide +kernel
theorem dX12_weighs_68 : decode cX12_weighs 68 = .ok (.iconst 0, 1) := by decide +kernel
theorem dX12_weighs_69 : decode cX12_weighs 69 = .ok (.istore 8, 2) := by decide +kernel
theorem dX12_weighs_71 : decode cX12_weighs 71 = .ok (.iconst 0, 1) := by decide +kernel
theorem dX12_weighs_72 : decode cX12_weighs 72 = .ok (.istore 9, 2) := by decide +kernel
theorem dX12_weighs_74 : decode cX12_weighs 74 = .ok (.iload 9, 2) := by decide +kernel
theorem dX12_weighs_76 : decode cX12_weighs 76 = .ok (.bipush 6, 2) := by decide +kernel
theorem dX12_weighs_78 : decode cX12_weighs 78 = .ok (.if_icmp .ge 74, 3) := by decide +kernel
theorem dX12_weighs_81 : decode cX12_weighs 81 = .ok (.iload 6, 2) := by decide +kernel
theorem dX12_weighs_83 : decode cX12_weighs 83 = .ok (.aload_n 0, 1) := by decide +kernel
theorem dX12_weighs_84 : decode cX12_weighs 84 = .ok (.getfield 177, 3) := by decide +kernel
theorem dX12_weighs_87 : decode cX12_weighs 87 = .ok (.iload 9, 2) := by decide +kernel
theorem dX12_weighs_89 : decode cX12_weighs 89 = .ok (.iaload, 1) := by decide +kernel
theorem dX12_weighs_90 : decode cX12_weighs 90 = .ok (.aload_n 0, 1) := by decide +kernel
theorem dX12_weighs_91 : decode cX12_weighs 91 = .ok (.getfield 32, 3) := by decide +kernel
theorem dX12_weighs_94 : decode cX12_weighs 94 = .ok (.bipush 6, 2) := by decide +kernel
theorem dX12_weighs_96 : decode cX12_weighs 96 = .ok (.aload_n 0, 1) := by decide +kernel
theorem dX12_weighs_97 : decode cX12_weighs 97 = .ok (.getfield 35, 3) := by decide +kernel
theorem dX12_weighs_100 : decode cX12_weighs 100 = .ok (.iload_n 1, 1) := by decide +kernel
theorem dX12_weighs_101 : decode cX12_weighs 101 = .ok (.iaload, 1) := by decide +kernel
theorem dX12_weighs_102 : decode cX12_weighs 102 = .ok (.imul, 1) := by decide +kernel
theorem dX12_weighs_103 : decode cX12_weighs 103 = .ok (.iload 9, 2) := by decide +kernel
theorem dX12_weighs_105 : decode cX12_weighs 105 = .ok (.iadd, 1) := by decide +kernel
theorem dX12_weighs_106 : decode cX12_weighs 106 = .ok (.iaload, 1) := by decide +kernel
theorem dX12_weighs_107 : decode cX12_weighs 107 = .ok (.imul, 1) := by decide +kernel
theorem dX12_weighs_108 : decode cX12_weighs 108 = .ok (.isub, 1) := by decide +kernel
theorem dX12_weighs_109 : decode cX12_weighs 109 = .ok (.istore 6, 2) := by decide +kernel
theorem dX12_weighs_111 : decode cX12_weighs 111 = .ok (.iload 7, 2) := by decide +kernel
theorem dX12_weighs_113 : decode cX12_weighs 113 = .ok (.aload_n 0, 1) := by decide +kernel
theorem dX12_weighs_114 : decode cX12_weighs 114 = .ok (.getfield 177, 3) := by decide +kernel
theorem dX12_weighs_117 : decode cX12_weighs 117 = .ok (.iload 9, 2) := by decide +kernel
theorem dX12_weighs_119 : decode cX12_weighs 119 = .ok (.iaload, 1) := by decide +kernel
theorem dX12_weighs_120 : decode cX12_weighs 120 = .ok (.iadd, 1) := by decide +kernel
theorem dX12_weighs_121 : decode cX12_weighs 121 = .ok (.istore 7, 2) := by decide +kernel
theorem dX12_weighs_123 : decode cX12_weighs 123 = .ok (.iload 8, 2) := by decide +kernel
theorem dX12_weighs_125 : decode cX12_weighs 125 = .ok (.aload_n 0, 1) := by decide +kernel
theorem dX12_weighs_126 : decode cX12_weighs 126 = .ok (.getfield 177, 3) := by decide +kernel
theorem dX12_weighs_129 : decode cX12_weighs 129 = .ok (.iload 9, 2) := by decide +kernel
theorem dX12_weighs_131 : decode cX12_weighs 131 = .ok (.iaload, 1) := by decide +kernel
theorem dX12_weighs_132 : decode cX12_weighs 132 = .ok (.ifCond .le 10, 3) := by decide +kernel
theorem dX12_weighs_135 : decode cX12_weighs 135 = .ok (.iconst 1, 1) := by decide +kernel
theorem dX12_weighs_136 : decode cX12_weighs 136 = .ok (.iload 9, 2) := by decide +kernel
theorem dX12_weighs_138 : decode cX12_weighs 138 = .ok (.ishl, 1) := by decide +kernel
theorem dX12_weighs_139 : decode cX12_weighs 139 = .ok (.goto 4, 3) := by decide +kernel
theorem dX12_weighs_142 : decode cX12_weighs 142 = .ok (.iconst 0, 1) := by decide +kernel
theorem dX12_weighs_143 : decode cX12_weighs 143 = .ok (.ior, 1) := by decide +kernel
theorem dX12_weighs_144 : decode cX12_weighs 144 = .ok (.istore 8, 2) := by decide +kernel
theorem dX12_weighs_146 : decode cX12_weighs 146 = .ok (.iinc 9 1, 3) := by decide +kernel
theorem dX12_weighs_149 : decode cX12_weighs 149 = .ok (.goto (-75), 3) := by decide +kernel
theorem dX12_weighs_152 : decode cX12_weighs 152 = .ok (.iload 6, 2) := by decide +kernel
theorem dX12_weighs_154 : decode cX12_weighs 154 = .ok (.i2l, 1) := by decide +kernel
theorem dX12_weighs_155 : decode cX12_weighs 155 = .ok (.iload_n 2, 1) := by decide +kernel
theorem dX12_weighs_156 : decode cX12_weighs 156 = .ok (.iload_n 3, 1) := by decide +kernel
theorem dX12_weighs_157 : decode cX12_weighs 157 = .ok (.isub, 1) := by decide +kernel
theorem dX12_weighs_158 : decode cX12_weighs 158 = .ok (.i2l, 1) := by decide +kernel
theorem dX12_weighs_159 : decode cX12_weighs 159 = .ok (.iload_n 2, 1) := by decide +kernel
theorem dX12_weighs_160 : decode cX12_weighs 160 = .ok (.iload_n 3, 1) := by decide +kernel
theorem dX12_weighs_161 : decode cX12_weighs 161 = .ok (.iadd, 1) := by decide +kernel
theorem dX12_weighs_162 : decode cX12_weighs 162 = .ok (.i2l, 1) := by decide +kernel
theorem dX12_weighs_163 : decode cX12_weighs 163 = .ok (.invokestatic 203, 3) := by decide +kernel
theorem dX12_weighs_166 : decode cX12_weighs 166 = .ok (.ifCond .eq 90, 3) := by decide +kernel
theorem dX12_weighs_169 : decode cX12_weighs 169 = .ok (.aload_n 0, 1) := by decide +kernel
theorem dX12_weighs_170 : decode cX12_weighs 170 = .ok (.dup, 1) := by decide +kernel
theorem dX12_weighs_171 : decode cX12_weighs 171 = .ok (.getfield 489, 3) := by decide +kernel
theorem dX12_weighs_174 : decode cX12_weighs 174 = .ok (.iconst 1, 1) := by decide +kernel
theorem dX12_weighs_175 : decode cX12_weighs 175 = .ok (.iadd, 1) := by decide +kernel
theorem dX12_weighs_176 : decode cX12_weighs 176 = .ok (.putfield 489, 3) := by decide +kernel
theorem dX12_weighs_179 : decode cX12_weighs 179 = .ok (.aload_n 0, 1) := by decide +kernel
theorem dX12_weighs_180 : decode cX12_weighs 180 = .ok (.dup, 1) := by decide +kernel
theorem dX12_weighs_181 : decode cX12_weighs 181 = .ok (.getfield 492, 3) := by decide +kernel
theorem dX12_weighs_184 : decode cX12_weighs 184 = .ok (.iload 8, 2) := by decide +kernel
theorem dX12_weighs_186 : decode cX12_weighs 186 = .ok (.iconst (-1), 1) := by decide +kernel
theorem dX12_weighs_187 : decode cX12_weighs 187 = .ok (.ixor, 1) := by decide +kernel
theorem dX12_weighs_188 : decode cX12_weighs 188 = .ok (.iand, 1) := by decide +kernel
theorem dX12_weighs_189 : decode cX12_weighs 189 = .ok (.putfield 492, 3) := by decide +kernel
theorem dX12_weighs_192 : decode cX12_weighs 192 = .ok (.aload_n 0, 1) := by decide +kernel
theorem dX12_weighs_193 : decode cX12_weighs 193 = .ok (.dup, 1) := by decide +kernel
theorem dX12_weighs_194 : decode cX12_weighs 194 = .ok (.getfield 495, 3) := by decide +kernel
theorem dX12_weighs_197 : decode cX12_weighs 197 = .ok (.iload 8, 2) := by decide +kernel
theorem dX12_weighs_199 : decode cX12_weighs 199 = .ok (.iand, 1) := by decide +kernel
theorem dX12_weighs_200 : decode cX12_weighs 200 = .ok (.putfield 495, 3) := by decide +kernel
theorem dX12_weighs_203 : decode cX12_weighs 203 = .ok (.aload_n 0, 1) := by decide +kernel
theorem dX12_weighs_204 : decode cX12_weighs 204 = .ok (.getfield 498, 3) := by decide +kernel
theorem dX12_weighs_207 : decode cX12_weighs 207 = .ok (.iconst (-1), 1) := by decide +kernel
theorem dX12_weighs_208 : decode cX12_weighs 208 = .ok (.if_icmp .eq 12, 3) := by decide +kernel
theorem dX12_weighs_211 : decode cX12_weighs 211 = .ok (.iload 7, 2) := by decide +kernel
theorem dX12_weighs_213 : decode cX12_weighs 213 = .ok (.aload_n 0, 1) := by decide +kernel
theorem dX12_weighs_214 : decode cX12_weighs 214 = .ok (.getfield 498, 3) := by decide +kernel
theorem dX12_weighs_217 : decode cX12_weighs 217 = .ok (.if_icmp .ge 39, 3) := by decide +kernel
theorem dX12_weighs_220 : decode cX12_weighs 220 = .ok (.aload_n 0, 1) := by decide +kernel
theorem dX12_weighs_221 : decode cX12_weighs 221 = .ok (.iload 7, 2) := by decide +kernel
theorem dX12_weighs_223 : decode cX12_weighs 223 = .ok (.putfield 498, 3) := by decide +kernel
theorem dX12_weighs_226 : decode cX12_weighs 226 = .ok (.iconst 0, 1) := by decide +kernel
theorem dX12_weighs_227 : decode cX12_weighs 227 = .ok (.istore 9, 2) := by decide +kernel
theorem dX12_weighs_229 : decode cX12_weighs 229 = .ok (.iload 9, 2) := by decide +kernel
theorem dX12_weighs_231 : decode cX12_weighs 231 = .ok (.bipush 6, 2) := by decide +kernel
theorem dX12_weighs_233 : decode cX12_weighs 233 = .ok (.if_icmp .ge 23, 3) := by decide +kernel
theorem dX12_weighs_236 : decode cX12_weighs 236 = .ok (.aload_n 0, 1) := by decide +kernel
theorem dX12_weighs_237 : decode cX12_weighs 237 = .ok (.getfield 180, 3) := by decide +kernel
theorem dX12_weighs_240 : decode cX12_weighs 240 = .ok (.iload 9, 2) := by decide +kernel
theorem dX12_weighs_242 : decode cX12_weighs 242 = .ok (.aload_n 0, 1) := by decide +kernel
theorem dX12_weighs_243 : decode cX12_weighs 243 = .ok (.getfield 177, 3) := by decide +kernel
theorem dX12_weighs_246 : decode cX12_weighs 246 = .ok (.iload 9, 2) := by decide +kernel
theorem dX12_weighs_248 : decode cX12_weighs 248 = .ok (.iaload, 1) := by decide +kernel
theorem dX12_weighs_249 : decode cX12_weighs 249 = .ok (.iastore, 1) := by decide +kernel
theorem dX12_weighs_250 : decode cX12_weighs 250 = .ok (.iinc 9 1, 3) := by decide +kernel
theorem dX12_weighs_253 : decode cX12_weighs 253 = .ok (.goto (-24), 3) := by decide +kernel
theorem dX12_weighs_256 : decode cX12_weighs 256 = .ok (.aload_n 0, 1) := by decide +kernel
theorem dX12_weighs_257 : decode cX12_weighs 257 = .ok (.iload_n 1, 1) := by decide +kernel
theorem dX12_weighs_258 : decode cX12_weighs 258 = .ok (.invokevirtual 501, 3) := by decide +kernel
theorem dX12_weighs_261 : decode cX12_weighs 261 = .ok (.istore 5, 2) := by decide +kernel
theorem dX12_weighs_263 : decode cX12_weighs 263 = .ok (.goto (-207), 3) := by decide +kernel
theorem dX12_weighs_266 : decode cX12_weighs 266 = .ok (.return_, 1) := by decide +kernel
theorem dX12_weigh_0 : decode cX12_weigh 0 = .ok (.aload_n 0, 1) := by decide +kernel
theorem dX12_weigh_1 : decode cX12_weigh 1 = .ok (.iload_n 1, 1) := by decide +kernel
theorem dX12_weigh_2 : decode cX12_weigh 2 = .ok (.invokevirtual 443, 3) := by decide +kernel
theorem dX12_weigh_5 : decode cX12_weigh 5 = .ok (.ifCond .eq 51, 3) := by decide +kernel
theorem dX12_weigh_8 : decode cX12_weigh 8 = .ok (.iload_n 2, 1) := by decide +kernel
theorem dX12_weigh_9 : decode cX12_weigh 9 = .ok (.i2l, 1) := by decide +kernel
theorem dX12_weigh_10 : decode cX12_weigh 10 = .ok (.lconst 0, 1) := by decide +kernel
theorem dX12_weigh_11 : decode cX12_weigh 11 = .ok (.ldc2_w 504, 3) := by decide +kernel
theorem dX12_weigh_14 : decode cX12_weigh 14 = .ok (.invokestatic 203, 3) := by decide +kernel
theorem dX12_weigh_17 : decode cX12_weigh 17 = .ok (.ifCond .eq 39, 3) := by decide +kernel
theorem dX12_weigh_20 : decode cX12_weigh 20 = .ok (.iload_n 3, 1) := by decide +kernel
theorem dX12_weigh_21 : decode cX12_weigh 21 = .ok (.i2l, 1) := by decide +kernel
theorem dX12_weigh_22 : decode cX12_weigh 22 = .ok (.lconst 0, 1) := by decide +kernel
theorem dX12_weigh_23 : decode cX12_weigh 23 = .ok (.ldc2_w 245, 3) := by decide +kernel
theorem dX12_weigh_26 : decode cX12_weigh 26 = .ok (.invokestatic 203, 3) := by decide +kernel
theorem dX12_weigh_29 : decode cX12_weigh 29 = .ok (.ifCond .eq 27, 3) := by decide +kernel
theorem dX12_weigh_32 : decode cX12_weigh 32 = .ok (.iload 4, 2) := by decide +kernel
theorem dX12_weigh_34 : decode cX12_weigh 34 = .ok (.i2l, 1) := by decide +kernel
theorem dX12_weigh_35 : decode cX12_weigh 35 = .ok (.lconst 0, 1) := by decide +kernel
theorem dX12_weigh_36 : decode cX12_weigh 36 = .ok (.ldc2_w 438, 3) := by decide +kernel
theorem dX12_weigh_39 : decode cX12_weigh 39 = .ok (.invokestatic 203, 3) := by decide +kernel
theorem dX12_weigh_42 : decode cX12_weigh 42 = .ok (.ifCond .ne 16, 3) := by decide +kernel
theorem dX12_weigh_45 : decode cX12_weigh 45 = .ok (.iload 4, 2) := by decide +kernel
theorem dX12_weigh_47 : decode cX12_weigh 47 = .ok (.bipush 10, 2) := by decide +kernel
theorem dX12_weigh_49 : decode cX12_weigh 49 = .ok (.isub, 1) := by decide +kernel
theorem dX12_weigh_50 : decode cX12_weigh 50 = .ok (.invokestatic 234, 3) := by decide +kernel
theorem dX12_weigh_53 : decode cX12_weigh 53 = .ok (.ifCond .ne 5, 3) := by decide +kernel
theorem dX12_weigh_56 : decode cX12_weigh 56 = .ok (.iconst (-1), 1) := by decide +kernel
theorem dX12_weigh_57 : decode cX12_weigh 57 = .ok (.ireturn, 1) := by decide +kernel
theorem dX12_weigh_58 : decode cX12_weigh 58 = .ok (.aload_n 0, 1) := by decide +kernel
theorem dX12_weigh_59 : decode cX12_weigh 59 = .ok (.iload_n 1, 1) := by decide +kernel
theorem dX12_weigh_60 : decode cX12_weigh 60 = .ok (.iload_n 2, 1) := by decide +kernel
theorem dX12_weigh_61 : decode cX12_weigh 61 = .ok (.iload_n 3, 1) := by decide +kernel
theorem dX12_weigh_62 : decode cX12_weigh 62 = .ok (.invokevirtual 506, 3) := by decide +kernel
theorem dX12_weigh_65 : decode cX12_weigh 65 = .ok (.aload_n 0, 1) := by decide +kernel
theorem dX12_weigh_66 : decode cX12_weigh 66 = .ok (.getfield 489, 3) := by decide +kernel
theorem dX12_weigh_69 : decode cX12_weigh 69 = .ok (.ifCond .ne 6, 3) := by decide +kernel
theorem dX12_weigh_72 : decode cX12_weigh 72 = .ok (.bipush (-2), 2) := by decide +kernel
theorem dX12_weigh_74 : decode cX12_weigh 74 = .ok (.ireturn, 1) := by decide +kernel
theorem dX12_weigh_75 : decode cX12_weigh 75 = .ok (.iload 4, 2) := by decide +kernel
theorem dX12_weigh_77 : decode cX12_weigh 77 = .ok (.ifCond .ne 10, 3) := by decide +kernel
theorem dX12_weigh_80 : decode cX12_weigh 80 = .ok (.aload_n 0, 1) := by decide +kernel
theorem dX12_weigh_81 : decode cX12_weigh 81 = .ok (.getfield 489, 3) := by decide +kernel
theorem dX12_weigh_84 : decode cX12_weigh 84 = .ok (.goto 52, 3) := by decide +kernel
theorem dX12_weigh_87 : decode cX12_weigh 87 = .ok (.iload 4, 2) := by decide +kernel
theorem dX12_weigh_89 : decode cX12_weigh 89 = .ok (.iconst 1, 1) := by decide +kernel
theorem dX12_weigh_90 : decode cX12_weigh 90 = .ok (.if_icmp .ne 10, 3) := by decide +kernel
theorem dX12_weigh_93 : decode cX12_weigh 93 = .ok (.aload_n 0, 1) := by decide +kernel
theorem dX12_weigh_94 : decode cX12_weigh 94 = .ok (.getfield 492, 3) := by decide +kernel
theorem dX12_weigh_97 : decode cX12_weigh 97 = .ok (.goto 39, 3) := by decide +kernel
theorem dX12_weigh_100 : decode cX12_weigh 100 = .ok (.iload 4, 2) := by decide +kernel
theorem dX12_weigh_102 : decode cX12_weigh 102 = .ok (.iconst 2, 1) := by decide +kernel
theorem dX12_weigh_103 : decode cX12_weigh 103 = .ok (.if_icmp .ne 10, 3) := by decide +kernel
theorem dX12_weigh_106 : decode cX12_weigh 106 = .ok (.aload_n 0, 1) := by decide +kernel
theorem dX12_weigh_107 : decode cX12_weigh 107 = .ok (.getfield 495, 3) := by decide +kernel
theorem dX12_weigh_110 : decode cX12_weigh 110 = .ok (.goto 26, 3) := by decide +kernel
theorem dX12_weigh_113 : decode cX12_weigh 113 = .ok (.iload 4, 2) := by decide +kernel
theorem dX12_weigh_115 : decode cX12_weigh 115 = .ok (.iconst 3, 1) := by decide +kernel
theorem dX12_weigh_116 : decode cX12_weigh 116 = .ok (.if_icmp .ne 10, 3) := by decide +kernel
theorem dX12_weigh_119 : decode cX12_weigh 119 = .ok (.aload_n 0, 1) := by decide +kernel
theorem dX12_weigh_120 : decode cX12_weigh 120 = .ok (.getfield 498, 3) := by decide +kernel
theorem dX12_weigh_123 : decode cX12_weigh 123 = .ok (.goto 13, 3) := by decide +kernel
theorem dX12_weigh_126 : decode cX12_weigh 126 = .ok (.aload_n 0, 1) := by decide +kernel
theorem dX12_weigh_127 : decode cX12_weigh 127 = .ok (.getfield 180, 3) := by decide +kernel
theorem dX12_weigh_130 : decode cX12_weigh 130 = .ok (.iload 4, 2) := by decide +kernel
theorem dX12_weigh_132 : decode cX12_weigh 132 = .ok (.bipush 10, 2) := by decide +kernel
theorem dX12_weigh_134 : decode cX12_weigh 134 = .ok (.isub, 1) := by decide +kernel
theorem dX12_weigh_135 : decode cX12_weigh 135 = .ok (.iaload, 1) := by decide +kernel
theorem dX12_weigh_136 : decode cX12_weigh 136 = .ok (.ireturn, 1) := by decide +kernel
theorem dX12_isSpare_0 : decode cX12_isSpare 0 = .ok (.aload_n 0, 1) := by decide +kernel
theorem dX12_isSpare_1 : decode cX12_isSpare 1 = .ok (.getfield 35, 3) := by decide +kernel
theorem dX12_isSpare_4 : decode cX12_isSpare 4 = .ok (.iload_n 1, 1) := by decide +kernel
theorem dX12_isSpare_5 : decode cX12_isSpare 5 = .ok (.iaload, 1) := by decide +kernel
theorem dX12_isSpare_6 : decode cX12_isSpare 6 = .ok (.iload_n 2, 1) := by decide +kernel
theorem dX12_isSpare_7 : decode cX12_isSpare 7 = .ok (.if_icmp .ne 24, 3) := by decide +kernel
theorem dX12_isSpare_10 : decode cX12_isSpare 10 = .ok (.aload_n 0, 1) := by decide +kernel
theorem dX12_isSpare_11 : decode cX12_isSpare 11 = .ok (.getfield 44, 3) := by decide +kernel
theorem dX12_isSpare_14 : decode cX12_isSpare 14 = .ok (.iload_n 1, 1) := by decide +kernel
theorem dX12_isSpare_15 : decode cX12_isSpare 15 = .ok (.iaload, 1) := by decide +kernel
theorem dX12_isSpare_16 : decode cX12_isSpare 16 = .ok (.ifCond .ne 15, 3) := by decide +kernel
theorem dX12_isSpare_19 : decode cX12_isSpare 19 = .ok (.aload_n 0, 1) := by decide +kernel
theorem dX12_isSpare_20 : decode cX12_isSpare 20 = .ok (.iload_n 1, 1) := by decide +kernel
theorem dX12_isSpare_21 : decode cX12_isSpare 21 = .ok (.invokevirtual 452, 3) := by decide +kernel
theorem dX12_isSpare_24 : decode cX12_isSpare 24 = .ok (.ifCond .ne 7, 3) := by decide +kernel
theorem dX12_isSpare_27 : decode cX12_isSpare 27 = .ok (.iconst 1, 1) := by decide +kernel
theorem dX12_isSpare_28 : decode cX12_isSpare 28 = .ok (.goto 4, 3) := by decide +kernel
theorem dX12_isSpare_31 : decode cX12_isSpare 31 = .ok (.iconst 0, 1) := by decide +kernel
theorem dX12_isSpare_32 : decode cX12_isSpare 32 = .ok (.ireturn, 1) := by decide +kernel
theorem dX12_wholeOf_0 : decode cX12_wholeOf 0 = .ok (.iconst 0, 1) := by decide +kernel
theorem dX12_wholeOf_1 : decode cX12_wholeOf 1 = .ok (.istore_n 2, 1) := by decide +kernel
theorem dX12_wholeOf_2 : decode cX12_wholeOf 2 = .ok (.iconst 0, 1) := by decide +kernel
theorem dX12_wholeOf_3 : decode cX12_wholeOf 3 = .ok (.istore_n 3, 1) := by decide +kernel
theorem dX12_wholeOf_4 : decode cX12_wholeOf 4 = .ok (.iload_n 3, 1) := by decide +kernel
theorem dX12_wholeOf_5 : decode cX12_wholeOf 5 = .ok (.aload_n 0, 1) := by decide +kernel
theorem dX12_wholeOf_6 : decode cX12_wholeOf 6 = .ok (.getfield 211, 3) := by decide +kernel
theorem dX12_wholeOf_9 : decode cX12_wholeOf 9 = .ok (.if_icmp .ge 26, 3) := by decide +kernel
theorem dX12_wholeOf_12 : decode cX12_wholeOf 12 = .ok (.iload_n 2, 1) := by decide +kernel
theorem dX12_wholeOf_13 : decode cX12_wholeOf 13 = .ok (.aload_n 0, 1) := by decide +kernel
theorem dX12_wholeOf_14 : decode cX12_wholeOf 14 = .ok (.iload_n 3, 1) := by decide +kernel
theorem dX12_wholeOf_15 : decode cX12_wholeOf 15 = .ok (.iload_n 1, 1) := by decide +kernel
theorem dX12_wholeOf_16 : decode cX12_wholeOf 16 = .ok (.invokevirtual 510, 3) := by decide +kernel
theorem dX12_wholeOf_19 : decode cX12_wholeOf 19 = .ok (.ifCond .eq 7, 3) := by decide +kernel
theorem dX12_wholeOf_22 : decode cX12_wholeOf 22 = .ok (.iconst 1, 1) := by decide +kernel
theorem dX12_wholeOf_23 : decode cX12_wholeOf 23 = .ok (.goto 4, 3) := by decide +kernel
theorem dX12_wholeOf_26 : decode cX12_wholeOf 26 = .ok (.iconst 0, 1) := by decide +kernel
theorem dX12_wholeOf_27 : decode cX12_wholeOf 27 = .ok (.iadd, 1) := by decide +kernel
theorem dX12_wholeOf_28 : decode cX12_wholeOf 28 = .ok (.istore_n 2, 1) := by decide +kernel
theorem dX12_wholeOf_29 : decode cX12_wholeOf 29 = .ok (.iinc 3 1, 3) := by decide +kernel
theorem dX12_wholeOf_32 : decode cX12_wholeOf 32 = .ok (.goto (-28), 3) := by decide +kernel
theorem dX12_wholeOf_35 : decode cX12_wholeOf 35 = .ok (.iconst 0, 1) := by decide +kernel
theorem dX12_wholeOf_36 : decode cX12_wholeOf 36 = .ok (.istore_n 3, 1) := by decide +kernel
theorem dX12_wholeOf_37 : decode cX12_wholeOf 37 = .ok (.iload_n 3, 1) := by decide +kernel
theorem dX12_wholeOf_38 : decode cX12_wholeOf 38 = .ok (.bipush 6, 2) := by decide +kernel
theorem dX12_wholeOf_40 : decode cX12_wholeOf 40 = .ok (.if_icmp .ge 98, 3) := by decide +kernel
theorem dX12_wholeOf_43 : decode cX12_wholeOf 43 = .ok (.iconst 0, 1) := by decide +kernel
theorem dX12_wholeOf_44 : decode cX12_wholeOf 44 = .ok (.istore 4, 2) := by decide +kernel
theorem dX12_wholeOf_46 : decode cX12_wholeOf 46 = .ok (.iconst 0, 1) := by decide +kernel
theorem dX12_wholeOf_47 : decode cX12_wholeOf 47 = .ok (.istore 5, 2) := by decide +kernel
theorem dX12_wholeOf_49 : decode cX12_wholeOf 49 = .ok (.iload 5, 2) := by decide +kernel
theorem dX12_wholeOf_51 : decode cX12_wholeOf 51 = .ok (.aload_n 0, 1) := by decide +kernel
theorem dX12_wholeOf_52 : decode cX12_wholeOf 52 = .ok (.getfield 211, 3) := by decide +kernel
theorem dX12_wholeOf_55 : decode cX12_wholeOf 55 = .ok (.if_icmp .ge 40, 3) := by decide +kernel
theorem dX12_wholeOf_58 : decode cX12_wholeOf 58 = .ok (.iload 4, 2) := by decide +kernel
theorem dX12_wholeOf_60 : decode cX12_wholeOf 60 = .ok (.aload_n 0, 1) := by decide +kernel
theorem dX12_wholeOf_61 : decode cX12_wholeOf 61 = .ok (.iload 5, 2) := by decide +kernel
theorem dX12_wholeOf_63 : decode cX12_wholeOf 63 = .ok (.iload_n 1, 1) := by decide +kernel
theorem dX12_wholeOf_64 : decode cX12_wholeOf 64 = .ok (.invokevirtual 510, 3) := by decide +kernel
theorem dX12_wholeOf_67 : decode cX12_wholeOf 67 = .ok (.ifCond .eq 18, 3) := by decide +kernel
theorem dX12_wholeOf_70 : decode cX12_wholeOf 70 = .ok (.aload_n 0, 1) := by decide +kernel
theorem dX12_wholeOf_71 : decode cX12_wholeOf 71 = .ok (.getfield 66, 3) := by decide +kernel
theorem dX12_wholeOf_74 : decode cX12_wholeOf 74 = .ok (.bipush 6, 2) := by decide +kernel
theorem dX12_wholeOf_76 : decode cX12_wholeOf 76 = .ok (.iload 5, 2) := by decide +kernel
theorem dX12_wholeOf_78 : decode cX12_wholeOf 78 = .ok (.imul, 1) := by decide +kernel
theorem dX12_wholeOf_79 : decode cX12_wholeOf 79 = .ok (.iload_n 3, 1) := by decide +kernel
theorem dX12_wholeOf_80 : decode cX12_wholeOf 80 = .ok (.iadd, 1) := by decide +kernel
theorem dX12_wholeOf_81 : decode cX12_wholeOf 81 = .ok (.iaload, 1) := by decide +kernel
theorem dX12_wholeOf_82 : decode cX12_wholeOf 82 = .ok (.goto 4, 3) := by decide +kernel
theorem dX12_wholeOf_85 : decode cX12_wholeOf 85 = .ok (.iconst 0, 1) := by decide +kernel
theorem dX12_wholeOf_86 : decode cX12_wholeOf 86 = .ok (.iadd, 1) := by decide +kernel
theorem dX12_wholeOf_87 : decode cX12_wholeOf 87 = .ok (.istore 4, 2) := by decide +kernel
theorem dX12_wholeOf_89 : decode cX12_wholeOf 89 = .ok (.iinc 5 1, 3) := by decide +kernel
theorem dX12_wholeOf_92 : decode cX12_wholeOf 92 = .ok (.goto (-43), 3) := by decide +kernel
theorem dX12_wholeOf_95 : decode cX12_wholeOf 95 = .ok (.aload_n 0, 1) := by decide +kernel
theorem dX12_wholeOf_96 : decode cX12_wholeOf 96 = .ok (.getfield 29, 3) := by decide +kernel
theorem dX12_wholeOf_99 : decode cX12_wholeOf 99 = .ok (.bipush 6, 2) := by decide +kernel
theorem dX12_wholeOf_101 : decode cX12_wholeOf 101 = .ok (.iload_n 1, 1) := by decide +kernel
theorem dX12_wholeOf_102 : decode cX12_wholeOf 102 = .ok (.imul, 1) := by decide +kernel
theorem dX12_wholeOf_103 : decode cX12_wholeOf 103 = .ok (.iload_n 3, 1) := by decide +kernel
theorem dX12_wholeOf_104 : decode cX12_wholeOf 104 = .ok (.iadd, 1) := by decide +kernel
theorem dX12_wholeOf_105 : decode cX12_wholeOf 105 = .ok (.iaload, 1) := by decide +kernel
theorem dX12_wholeOf_106 : decode cX12_wholeOf 106 = .ok (.istore 5, 2) := by decide +kernel
theorem dX12_wholeOf_108 : decode cX12_wholeOf 108 = .ok (.iload 5, 2) := by decide +kernel
theorem dX12_wholeOf_110 : decode cX12_wholeOf 110 = .ok (.ifCond .le 20, 3) := by decide +kernel
theorem dX12_wholeOf_113 : decode cX12_wholeOf 113 = .ok (.iload 4, 2) := by decide +kernel
theorem dX12_wholeOf_115 : decode cX12_wholeOf 115 = .ok (.iload 5, 2) := by decide +kernel
theorem dX12_wholeOf_117 : decode cX12_wholeOf 117 = .ok (.idiv, 1) := by decide +kernel
theorem dX12_wholeOf_118 : decode cX12_wholeOf 118 = .ok (.iload_n 2, 1) := by decide +kernel
theorem dX12_wholeOf_119 : decode cX12_wholeOf 119 = .ok (.if_icmp .ge 11, 3) := by decide +kernel
theorem dX12_wholeOf_122 : decode cX12_wholeOf 122 = .ok (.iload 4, 2) := by decide +kernel
theorem dX12_wholeOf_124 : decode cX12_wholeOf 124 = .ok (.iload 5, 2) := by decide +kernel
theorem dX12_wholeOf_126 : decode cX12_wholeOf 126 = .ok (.idiv, 1) := by decide +kernel
theorem dX12_wholeOf_127 : decode cX12_wholeOf 127 = .ok (.goto 4, 3) := by decide +kernel
theorem dX12_wholeOf_130 : decode cX12_wholeOf 130 = .ok (.iload_n 2, 1) := by decide +kernel
theorem dX12_wholeOf_131 : decode cX12_wholeOf 131 = .ok (.istore_n 2, 1) := by decide +kernel
theorem dX12_wholeOf_132 : decode cX12_wholeOf 132 = .ok (.iinc 3 1, 3) := by decide +kernel
theorem dX12_wholeOf_135 : decode cX12_wholeOf 135 = .ok (.goto (-98), 3) := by decide +kernel
theorem dX12_wholeOf_138 : decode cX12_wholeOf 138 = .ok (.iload_n 2, 1) := by decide +kernel
theorem dX12_wholeOf_139 : decode cX12_wholeOf 139 = .ok (.ireturn, 1) := by decide +kernel
theorem dX12_whole_0 : decode cX12_whole 0 = .ok (.aload_n 0, 1) := by decide +kernel
theorem dX12_whole_1 : decode cX12_whole 1 = .ok (.iload_n 1, 1) := by decide +kernel
theorem dX12_whole_2 : decode cX12_whole 2 = .ok (.invokevirtual 230, 3) := by decide +kernel
theorem dX12_whole_5 : decode cX12_whole 5 = .ok (.ifCond .eq 15, 3) := by decide +kernel
theorem dX12_whole_8 : decode cX12_whole 8 = .ok (.iload_n 2, 1) := by decide +kernel
theorem dX12_whole_9 : decode cX12_whole 9 = .ok (.i2l, 1) := by decide +kernel
theorem dX12_whole_10 : decode cX12_whole 10 = .ok (.lconst 0, 1) := by decide +kernel
theorem dX12_whole_11 : decode cX12_whole 11 = .ok (.ldc2_w 513, 3) := by decide +kernel
theorem dX12_whole_14 : decode cX12_whole 14 = .ok (.invokestatic 203, 3) := by decide +kernel
theorem dX12_whole_17 : decode cX12_whole 17 = .ok (.ifCond .ne 5, 3) := by decide +kernel
theorem dX12_whole_20 : decode cX12_whole 20 = .ok (.iconst (-1), 1) := by decide +kernel
theorem dX12_whole_21 : decode cX12_whole 21 = .ok (.ireturn, 1) := by decide +kernel
theorem dX12_whole_22 : decode cX12_whole 22 = .ok (.aload_n 0, 1) := by decide +kernel
theorem dX12_whole_23 : decode cX12_whole 23 = .ok (.iload_n 1, 1) := by decide +kernel
theorem dX12_whole_24 : decode cX12_whole 24 = .ok (.invokevirtual 515, 3) := by decide +kernel
theorem dX12_whole_27 : decode cX12_whole 27 = .ok (.istore_n 3, 1) := by decide +kernel
theorem dX12_whole_28 : decode cX12_whole 28 = .ok (.iconst 0, 1) := by decide +kernel
theorem dX12_whole_29 : decode cX12_whole 29 = .ok (.istore 4, 2) := by decide +kernel
theorem dX12_whole_31 : decode cX12_whole 31 = .ok (.iconst 0, 1) := by decide +kernel
theorem dX12_whole_32 : decode cX12_whole 32 = .ok (.istore 5, 2) := by decide +kernel
theorem dX12_whole_34 : decode cX12_whole 34 = .ok (.iconst 0, 1) := by decide +kernel
theorem dX12_whole_35 : decode cX12_whole 35 = .ok (.istore 6, 2) := by decide +kernel
theorem dX12_whole_37 : decode cX12_whole 37 = .ok (.iload 6, 2) := by decide +kernel
theorem dX12_whole_39 : decode cX12_whole 39 = .ok (.iload_n 3, 1) := by decide +kernel
theorem dX12_whole_40 : decode cX12_whole 40 = .ok (.if_icmp .ge 95, 3) := by decide +kernel
theorem dX12_whole_43 : decode cX12_whole 43 = .ok (.iconst (-1), 1) := by decide +kernel
theorem dX12_whole_44 : decode cX12_whole 44 = .ok (.istore 7, 2) := by decide +kernel
theorem dX12_whole_46 : decode cX12_whole 46 = .ok (.iconst 0, 1) := by decide +kernel
theorem dX12_whole_47 : decode cX12_whole 47 = .ok (.istore 8, 2) := by decide +kernel
theorem dX12_whole_49 : decode cX12_whole 49 = .ok (.iload 8, 2) := by decide +kernel
theorem dX12_whole_51 : decode cX12_whole 51 = .ok (.aload_n 0, 1) := by decide +kernel
theorem dX12_whole_52 : decode cX12_whole 52 = .ok (.getfield 211, 3) := by decide +kernel
theorem dX12_whole_55 : decode cX12_whole 55 = .ok (.if_icmp .ge 54, 3) := by decide +kernel
theorem dX12_whole_58 : decode cX12_whole 58 = .ok (.aload_n 0, 1) := by decide +kernel
theorem dX12_whole_59 : decode cX12_whole 59 = .ok (.iload 8, 2) := by decide +kernel
theorem dX12_whole_61 : decode cX12_whole 61 = .ok (.iload_n 1, 1) := by decide +kernel
theorem dX12_whole_62 : decode cX12_whole 62 = .ok (.invokevirtual 510, 3) := by decide +kernel
theorem dX12_whole_65 : decode cX12_whole 65 = .ok (.ifCond .eq 38, 3) := by decide +kernel
theorem dX12_whole_68 : decode cX12_whole 68 = .ok (.iload 4, 2) := by decide +kernel
theorem dX12_whole_70 : decode cX12_whole 70 = .ok (.iload 8, 2) := by decide +kernel
theorem dX12_whole_72 : decode cX12_whole 72 = .ok (.invokestatic 440, 3) := by decide +kernel
theorem dX12_whole_75 : decode cX12_whole 75 = .ok (.ifCond .ne 28, 3) := by decide +kernel
theorem dX12_whole_78 : decode cX12_whole 78 = .ok (.iload 7, 2) := by decide +kernel
theorem dX12_whole_80 : decode cX12_whole 80 = .ok (.iconst (-1), 1) := by decide +kernel
theorem dX12_whole_81 : decode cX12_whole 81 = .ok (.if_icmp .eq 18, 3) := by decide +kernel
theorem dX12_whole_84 : decode cX12_whole 84 = .ok (.aload_n 0, 1) := by decide +kernel
theorem dX12_whole_85 : decode cX12_whole 85 = .ok (.iload 8, 2) := by decide +kernel
theorem dX12_whole_87 : decode cX12_whole 87 = .ok (.invokevirtual 390, 3) := by decide +kernel
theorem dX12_whole_90 : decode cX12_whole 90 = .ok (.aload_n 0, 1) := by decide +kernel
theorem dX12_whole_91 : decode cX12_whole 91 = .ok (.iload 7, 2) := by decide +kernel
theorem dX12_whole_93 : decode cX12_whole 93 = .ok (.invokevirtual 390, 3) := by decide +kernel
theorem dX12_whole_96 : decode cX12_whole 96 = .ok (.if_icmp .ge 7, 3) := by decide +kernel
theorem dX12_whole_99 : decode cX12_whole 99 = .ok (.iload 8, 2) := by decide +kernel
theorem dX12_whole_101 : decode cX12_whole 101 = .ok (.istore 7, 2) := by decide +kernel
theorem dX12_whole_103 : decode cX12_whole 103 = .ok (.iinc 8 1, 3) := by decide +kernel
theorem dX12_whole_106 : decode cX12_whole 106 = .ok (.goto (-57), 3) := by decide +kernel
theorem dX12_whole_109 : decode cX12_whole 109 = .ok (.iload 4, 2) := by decide +kernel
theorem dX12_whole_111 : decode cX12_whole 111 = .ok (.iconst 1, 1) := by decide +kernel
theorem dX12_whole_112 : decode cX12_whole 112 = .ok (.iload 7, 2) := by decide +kernel
theorem dX12_whole_114 : decode cX12_whole 114 = .ok (.ishl, 1) := by decide +kernel
theorem dX12_whole_115 : decode cX12_whole 115 = .ok (.ior, 1) := by decide +kernel
theorem dX12_whole_116 : decode cX12_whole 116 = .ok (.istore 4, 2) := by decide +kernel
theorem dX12_whole_118 : decode cX12_whole 118 = .ok (.iload 5, 2) := by decide +kernel
theorem dX12_whole_120 : decode cX12_whole 120 = .ok (.aload_n 0, 1) := by decide +kernel
theorem dX12_whole_121 : decode cX12_whole 121 = .ok (.iload 7, 2) := by decide +kernel
theorem dX12_whole_123 : decode cX12_whole 123 = .ok (.invokevirtual 390, 3) := by decide +kernel
theorem dX12_whole_126 : decode cX12_whole 126 = .ok (.iadd, 1) := by decide +kernel
theorem dX12_whole_127 : decode cX12_whole 127 = .ok (.istore 5, 2) := by decide +kernel
theorem dX12_whole_129 : decode cX12_whole 129 = .ok (.iinc 6 1, 3) := by decide +kernel
theorem dX12_whole_132 : decode cX12_whole 132 = .ok (.goto (-95), 3) := by decide +kernel
theorem dX12_whole_135 : decode cX12_whole 135 = .ok (.iload_n 2, 1) := by decide +kernel
theorem dX12_whole_136 : decode cX12_whole 136 = .ok (.ifCond .ne 7, 3) := by decide +kernel
theorem dX12_whole_139 : decode cX12_whole 139 = .ok (.iload_n 3, 1) := by decide +kernel
theorem dX12_whole_140 : decode cX12_whole 140 = .ok (.goto 15, 3) := by decide +kernel
theorem dX12_whole_143 : decode cX12_whole 143 = .ok (.iload_n 2, 1) := by decide +kernel
theorem dX12_whole_144 : decode cX12_whole 144 = .ok (.iconst 1, 1) := by decide +kernel
theorem dX12_whole_145 : decode cX12_whole 145 = .ok (.if_icmp .ne 8, 3) := by decide +kernel
theorem dX12_whole_148 : decode cX12_whole 148 = .ok (.iload 5, 2) := by decide +kernel
theorem dX12_whole_150 : decode cX12_whole 150 = .ok (.goto 5, 3) := by decide +kernel
theorem dX12_whole_153 : decode cX12_whole 153 = .ok (.iload 4, 2) := by decide +kernel
theorem dX12_whole_155 : decode cX12_whole 155 = .ok (.ireturn, 1) := by decide +kernel
theorem dX12_waits_0 : decode cX12_waits 0 = .ok (.aload_n 0, 1) := by decide +kernel
theorem dX12_waits_1 : decode cX12_waits 1 = .ok (.iload_n 1, 1) := by decide +kernel
theorem dX12_waits_2 : decode cX12_waits 2 = .ok (.invokevirtual 435, 3) := by decide +kernel
theorem dX12_waits_5 : decode cX12_waits 5 = .ok (.ifCond .eq 26, 3) := by decide +kernel
theorem dX12_waits_8 : decode cX12_waits 8 = .ok (.aload_n 0, 1) := by decide +kernel
theorem dX12_waits_9 : decode cX12_waits 9 = .ok (.iload_n 2, 1) := by decide +kernel
theorem dX12_waits_10 : decode cX12_waits 10 = .ok (.invokevirtual 230, 3) := by decide +kernel
theorem dX12_waits_13 : decode cX12_waits 13 = .ok (.ifCond .eq 18, 3) := by decide +kernel
theorem dX12_waits_16 : decode cX12_waits 16 = .ok (.aload_n 0, 1) := by decide +kernel
theorem dX12_waits_17 : decode cX12_waits 17 = .ok (.getfield 183, 3) := by decide +kernel
theorem dX12_waits_20 : decode cX12_waits 20 = .ok (.bipush 8, 2) := by decide +kernel
theorem dX12_waits_22 : decode cX12_waits 22 = .ok (.iload_n 1, 1) := by decide +kernel
theorem dX12_waits_23 : decode cX12_waits 23 = .ok (.imul, 1) := by decide +kernel
theorem dX12_waits_24 : decode cX12_waits 24 = .ok (.iload_n 2, 1) := by decide +kernel
theorem dX12_waits_25 : decode cX12_waits 25 = .ok (.iadd, 1) := by decide +kernel
theorem dX12_waits_26 : decode cX12_waits 26 = .ok (.iaload, 1) := by decide +kernel
theorem dX12_waits_27 : decode cX12_waits 27 = .ok (.iconst (-1), 1) := by decide +kernel
theorem dX12_waits_28 : decode cX12_waits 28 = .ok (.if_icmp .eq 5, 3) := by decide +kernel
theorem dX12_waits_31 : decode cX12_waits 31 = .ok (.iconst 0, 1) := by decide +kernel
theorem dX12_waits_32 : decode cX12_waits 32 = .ok (.ireturn, 1) := by decide +kernel
theorem dX12_waits_33 : decode cX12_waits 33 = .ok (.aload_n 0, 1) := by decide +kernel
theorem dX12_waits_34 : decode cX12_waits 34 = .ok (.getfield 183, 3) := by decide +kernel
theorem dX12_waits_37 : decode cX12_waits 37 = .ok (.bipush 8, 2) := by decide +kernel
theorem dX12_waits_39 : decode cX12_waits 39 = .ok (.iload_n 1, 1) := by decide +kernel
theorem dX12_waits_40 : decode cX12_waits 40 = .ok (.imul, 1) := by decide +kernel
theorem dX12_waits_41 : decode cX12_waits 41 = .ok (.iload_n 2, 1) := by decide +kernel
theorem dX12_waits_42 : decode cX12_waits 42 = .ok (.iadd, 1) := by decide +kernel
theorem dX12_waits_43 : decode cX12_waits 43 = .ok (.aload_n 0, 1) := by decide +kernel
theorem dX12_waits_44 : decode cX12_waits 44 = .ok (.getfield 219, 3) := by decide +kernel
theorem dX12_waits_47 : decode cX12_waits 47 = .ok (.iastore, 1) := by decide +kernel
theorem dX12_waits_48 : decode cX12_waits 48 = .ok (.aload_n 0, 1) := by decide +kernel
theorem dX12_waits_49 : decode cX12_waits 49 = .ok (.getfield 186, 3) := by decide +kernel
theorem dX12_waits_52 : decode cX12_waits 52 = .ok (.aload_n 0, 1) := by decide +kernel
theorem dX12_waits_53 : decode cX12_waits 53 = .ok (.getfield 219, 3) := by decide +kernel
theorem dX12_waits_56 : decode cX12_waits 56 = .ok (.sipush 365, 3) := by decide +kernel
theorem dX12_waits_59 : decode cX12_waits 59 = .ok (.irem, 1) := by decide +kernel
theorem dX12_waits_60 : decode cX12_waits 60 = .ok (.bipush 7, 2) := by decide +kernel
theorem dX12_waits_62 : decode cX12_waits 62 = .ok (.idiv, 1) := by decide +kernel
theorem dX12_waits_63 : decode cX12_waits 63 = .ok (.dup2, 1) := by decide +kernel
theorem dX12_waits_64 : decode cX12_waits 64 = .ok (.iaload, 1) := by decide +kernel
theorem dX12_waits_65 : decode cX12_waits 65 = .ok (.iconst 1, 1) := by decide +kernel
theorem dX12_waits_66 : decode cX12_waits 66 = .ok (.iadd, 1) := by decide +kernel
theorem dX12_waits_67 : decode cX12_waits 67 = .ok (.iastore, 1) := by decide +kernel
theorem dX12_waits_68 : decode cX12_waits 68 = .ok (.iconst 1, 1) := by decide +kernel
theorem dX12_waits_69 : decode cX12_waits 69 = .ok (.ireturn, 1) := by decide +kernel
theorem dX12_leaves_0 : decode cX12_leaves 0 = .ok (.aload_n 0, 1) := by decide +kernel
theorem dX12_leaves_1 : decode cX12_leaves 1 = .ok (.iload_n 1, 1) := by decide +kernel
theorem dX12_leaves_2 : decode cX12_leaves 2 = .ok (.invokevirtual 435, 3) := by decide +kernel
theorem dX12_leaves_5 : decode cX12_leaves 5 = .ok (.ifCond .eq 26, 3) := by decide +kernel
theorem dX12_leaves_8 : decode cX12_leaves 8 = .ok (.aload_n 0, 1) := by decide +kernel
theorem dX12_leaves_9 : decode cX12_leaves 9 = .ok (.iload_n 2, 1) := by decide +kernel
theorem dX12_leaves_10 : decode cX12_leaves 10 = .ok (.invokevirtual 230, 3) := by decide +kernel
theorem dX12_leaves_13 : decode cX12_leaves 13 = .ok (.ifCond .eq 18, 3) := by decide +kernel
theorem dX12_leaves_16 : decode cX12_leaves 16 = .ok (.aload_n 0, 1) := by decide +kernel
theorem dX12_leaves_17 : decode cX12_leaves 17 = .ok (.getfield 183, 3) := by decide +kernel
theorem dX12_leaves_20 : decode cX12_leaves 20 = .ok (.bipush 8, 2) := by decide +kernel
theorem dX12_leaves_22 : decode cX12_leaves 22 = .ok (.iload_n 1, 1) := by decide +kernel
theorem dX12_leaves_23 : decode cX12_leaves 23 = .ok (.imul, 1) := by decide +kernel
theorem dX12_leaves_24 : decode cX12_leaves 24 = .ok (.iload_n 2, 1) := by decide +kernel
theorem dX12_leaves_25 : decode cX12_leaves 25 = .ok (.iadd, 1) := by decide +kernel
theorem dX12_leaves_26 : decode cX12_leaves 26 = .ok (.iaload, 1) := by decide +kernel
theorem dX12_leaves_27 : decode cX12_leaves 27 = .ok (.iconst (-1), 1) := by decide +kernel
theorem dX12_leaves_28 : decode cX12_leaves 28 = .ok (.if_icmp .ne 5, 3) := by decide +kernel
theorem dX12_leaves_31 : decode cX12_leaves 31 = .ok (.iconst 0, 1) := by decide +kernel
theorem dX12_leaves_32 : decode cX12_leaves 32 = .ok (.ireturn, 1) := by decide +kernel
theorem dX12_leaves_33 : decode cX12_leaves 33 = .ok (.aload_n 0, 1) := by decide +kernel
theorem dX12_leaves_34 : decode cX12_leaves 34 = .ok (.getfield 183, 3) := by decide +kernel
theorem dX12_leaves_37 : decode cX12_leaves 37 = .ok (.bipush 8, 2) := by decide +kernel
theorem dX12_leaves_39 : decode cX12_leaves 39 = .ok (.iload_n 1, 1) := by decide +kernel
theorem dX12_leaves_40 : decode cX12_leaves 40 = .ok (.imul, 1) := by decide +kernel
theorem dX12_leaves_41 : decode cX12_leaves 41 = .ok (.iload_n 2, 1) := by decide +kernel
theorem dX12_leaves_42 : decode cX12_leaves 42 = .ok (.iadd, 1) := by decide +kernel
theorem dX12_leaves_43 : decode cX12_leaves 43 = .ok (.iconst (-1), 1) := by decide +kernel
theorem dX12_leaves_44 : decode cX12_leaves 44 = .ok (.iastore, 1) := by decide +kernel
theorem dX12_leaves_45 : decode cX12_leaves 45 = .ok (.iconst 1, 1) := by decide +kernel
theorem dX12_leaves_46 : decode cX12_leaves 46 = .ok (.ireturn, 1) := by decide +kernel
theorem dX12_turnOf_0 : decode cX12_turnOf 0 = .ok (.aload_n 0, 1) := by decide +kernel
theorem dX12_turnOf_1 : decode cX12_turnOf 1 = .ok (.iload_n 1, 1) := by decide +kernel
theorem dX12_turnOf_2 : decode cX12_turnOf 2 = .ok (.iconst (-1), 1) := by decide +kernel
theorem dX12_turnOf_3 : decode cX12_turnOf 3 = .ok (.iload_n 2, 1) := by decide +kernel
theorem dX12_turnOf_4 : decode cX12_turnOf 4 = .ok (.iconst 0, 1) := by decide +kernel
theorem dX12_turnOf_5 : decode cX12_turnOf 5 = .ok (.invokevirtual 458, 3) := by decide +kernel
theorem dX12_turnOf_8 : decode cX12_turnOf 8 = .ok (.aload_n 0, 1) := by decide +kernel
theorem dX12_turnOf_9 : decode cX12_turnOf 9 = .ok (.bipush 110, 2) := by decide +kernel
theorem dX12_turnOf_11 : decode cX12_turnOf 11 = .ok (.ldc_w 518, 3) := by decide +kernel
theorem dX12_turnOf_14 : decode cX12_turnOf 14 = .ok (.ldc_w 482, 3) := by decide +kernel
theorem dX12_turnOf_17 : decode cX12_turnOf 17 = .ok (.iconst 0, 1) := by decide +kernel
theorem dX12_turnOf_18 : decode cX12_turnOf 18 = .ok (.invokevirtual 475, 3) := by decide +kernel
theorem dX12_turnOf_21 : decode cX12_turnOf 21 = .ok (.ireturn, 1) := by decide +kernel
theorem dX12_next_0 : decode cX12_next 0 = .ok (.aload_n 0, 1) := by decide +kernel
theorem dX12_next_1 : decode cX12_next 1 = .ok (.iload_n 1, 1) := by decide +kernel
theorem dX12_next_2 : decode cX12_next 2 = .ok (.invokevirtual 230, 3) := by decide +kernel
theorem dX12_next_5 : decode cX12_next 5 = .ok (.ifCond .eq 15, 3) := by decide +kernel
theorem dX12_next_8 : decode cX12_next 8 = .ok (.iload_n 2, 1) := by decide +kernel
theorem dX12_next_9 : decode cX12_next 9 = .ok (.i2l, 1) := by decide +kernel
theorem dX12_next_10 : decode cX12_next 10 = .ok (.lconst 0, 1) := by decide +kernel
theorem dX12_next_11 : decode cX12_next 11 = .ok (.ldc2_w 513, 3) := by decide +kernel
theorem dX12_next_14 : decode cX12_next 14 = .ok (.invokestatic 203, 3) := by decide +kernel
theorem dX12_next_17 : decode cX12_next 17 = .ok (.ifCond .ne 7, 3) := by decide +kernel
theorem dX12_next_20 : decode cX12_next 20 = .ok (.ldc_w 519, 3) := by decide +kernel
theorem dX12_next_23 : decode cX12_next 23 = .ok (.ireturn, 1) := by decide +kernel
theorem dX12_next_24 : decode cX12_next 24 = .ok (.iload_n 2, 1) := by decide +kernel
theorem dX12_next_25 : decode cX12_next 25 = .ok (.iconst 2, 1) := by decide +kernel
theorem dX12_next_26 : decode cX12_next 26 = .ok (.if_icmp .ne 9, 3) := by decide +kernel
theorem dX12_next_29 : decode cX12_next 29 = .ok (.aload_n 0, 1) := by decide +kernel
theorem dX12_next_30 : decode cX12_next 30 = .ok (.iload_n 1, 1) := by decide +kernel
theorem dX12_next_31 : decode cX12_next 31 = .ok (.invokevirtual 400, 3) := by decide +kernel
theorem dX12_next_34 : decode cX12_next 34 = .ok (.ireturn, 1) := by decide +kernel
theorem dX12_next_35 : decode cX12_next 35 = .ok (.iconst (-1), 1) := by decide +kernel
theorem dX12_next_36 : decode cX12_next 36 = .ok (.istore_n 3, 1) := by decide +kernel
theorem dX12_next_37 : decode cX12_next 37 = .ok (.iconst 0, 1) := by decide +kernel
theorem dX12_next_38 : decode cX12_next 38 = .ok (.istore 4, 2) := by decide +kernel
theorem dX12_next_40 : decode cX12_next 40 = .ok (.iconst 0, 1) := by decide +kernel
theorem dX12_next_41 : decode cX12_next 41 = .ok (.istore 5, 2) := by decide +kernel
theorem dX12_next_43 : decode cX12_next 43 = .ok (.iload 5, 2) := by decide +kernel
theorem dX12_next_45 : decode cX12_next 45 = .ok (.aload_n 0, 1) := by decide +kernel
theorem dX12_next_46 : decode cX12_next 46 = .ok (.getfield 214, 3) := by decide +kernel
theorem dX12_next_49 : decode cX12_next 49 = .ok (.if_icmp .ge 115, 3) := by decide +kernel
theorem dX12_next_52 : decode cX12_next 52 = .ok (.aload_n 0, 1) := by decide +kernel
theorem dX12_next_53 : decode cX12_next 53 = .ok (.getfield 183, 3) := by decide +kernel
theorem dX12_next_56 : decode cX12_next 56 = .ok (.bipush 8, 2) := by decide +kernel
theorem dX12_next_58 : decode cX12_next 58 = .ok (.iload 5, 2) := by decide +kernel
theorem dX12_next_60 : decode cX12_next 60 = .ok (.imul, 1) := by decide +kernel
theorem dX12_next_61 : decode cX12_next 61 = .ok (.iload_n 1, 1) := by decide +kernel
theorem dX12_next_62 : decode cX12_next 62 = .ok (.iadd, 1) := by decide +kernel
theorem dX12_next_63 : decode cX12_next 63 = .ok (.iaload, 1) := by decide +kernel
theorem dX12_next_64 : decode cX12_next 64 = .ok (.iconst (-1), 1) := by decide +kernel
theorem dX12_next_65 : decode cX12_next 65 = .ok (.if_icmp .ne 6, 3) := by decide +kernel
theorem dX12_next_68 : decode cX12_next 68 = .ok (.goto 90, 3) := by decide +kernel
theorem dX12_next_71 : decode cX12_next 71 = .ok (.aload_n 0, 1) := by decide +kernel
theorem dX12_next_72 : decode cX12_next 72 = .ok (.iload_n 1, 1) := by decide +kernel
theorem dX12_next_73 : decode cX12_next 73 = .ok (.iload 5, 2) := by decide +kernel
theorem dX12_next_75 : decode cX12_next 75 = .ok (.invokevirtual 520, 3) := by decide +kernel
theorem dX12_next_78 : decode cX12_next 78 = .ok (.istore 6, 2) := by decide +kernel
theorem dX12_next_80 : decode cX12_next 80 = .ok (.iload_n 3, 1) := by decide +kernel
theorem dX12_next_81 : decode cX12_next 81 = .ok (.iconst (-1), 1) := by decide +kernel
theorem dX12_next_82 : decode cX12_next 82 = .ok (.if_icmp .eq 43, 3) := by decide +kernel
theorem dX12_next_85 : decode cX12_next 85 = .ok (.iload 6, 2) := by decide +kernel
theorem dX12_next_87 : decode cX12_next 87 = .ok (.iload 4, 2) := by decide +kernel
theorem dX12_next_89 : decode cX12_next 89 = .ok (.if_icmp .gt 36, 3) := by decide +kernel
theorem dX12_next_92 : decode cX12_next 92 = .ok (.iload 6, 2) := by decide +kernel
theorem dX12_next_94 : decode cX12_next 94 = .ok (.iload 4, 2) := by decide +kernel
theorem dX12_next_96 : decode cX12_next 96 = .ok (.if_icmp .ne 33, 3) := by decide +kernel
theorem dX12_next_99 : decode cX12_next 99 = .ok (.aload_n 0, 1) := by decide +kernel
theorem dX12_next_100 : decode cX12_next 100 = .ok (.getfield 183, 3) := by decide +kernel
theorem dX12_next_103 : decode cX12_next 103 = .ok (.bipush 8, 2) := by decide +kernel
theorem dX12_next_105 : decode cX12_next 105 = .ok (.iload 5, 2) := by decide +kernel
theorem dX12_next_107 : decode cX12_next 107 = .ok (.imul, 1) := by decide +kernel
