theorem dX11_peak_13 : decode cX11_peak 13 = .ok (.iconst 1, 1) := by decide +kernel
theorem dX11_peak_14 : decode cX11_peak 14 = .ok (.istore_n 3, 1) := by decide +kernel
theorem dX11_peak_15 : decode cX11_peak 15 = .ok (.iload_n 3, 1) := by decide +kernel
theorem dX11_peak_16 : decode cX11_peak 16 = .ok (.bipush 53, 2) := by decide +kernel
theorem dX11_peak_18 : decode cX11_peak 18 = .ok (.if_icmp .ge 24, 3) := by decide +kernel
theorem dX11_peak_21 : decode cX11_peak 21 = .ok (.aload_n 0, 1) := by decide +kernel
theorem dX11_peak_22 : decode cX11_peak 22 = .ok (.iload_n 3, 1) := by decide +kernel
theorem dX11_peak_23 : decode cX11_peak 23 = .ok (.invokevirtual 413, 3) := by decide +kernel
theorem dX11_peak_26 : decode cX11_peak 26 = .ok (.aload_n 0, 1) := by decide +kernel
theorem dX11_peak_27 : decode cX11_peak 27 = .ok (.iload_n 2, 1) := by decide +kernel
theorem dX11_peak_28 : decode cX11_peak 28 = .ok (.invokevirtual 413, 3) := by decide +kernel
theorem dX11_peak_31 : decode cX11_peak 31 = .ok (.if_icmp .le 5, 3) := by decide +kernel
theorem dX11_peak_34 : decode cX11_peak 34 = .ok (.iload_n 3, 1) := by decide +kernel
theorem dX11_peak_35 : decode cX11_peak 35 = .ok (.istore_n 2, 1) := by decide +kernel
theorem dX11_peak_36 : decode cX11_peak 36 = .ok (.iinc 3 1, 3) := by decide +kernel
theorem dX11_peak_39 : decode cX11_peak 39 = .ok (.goto (-24), 3) := by decide +kernel
theorem dX11_peak_42 : decode cX11_peak 42 = .ok (.iload_n 1, 1) := by decide +kernel
theorem dX11_peak_43 : decode cX11_peak 43 = .ok (.ifCond .ne 7, 3) := by decide +kernel
theorem dX11_peak_46 : decode cX11_peak 46 = .ok (.iload_n 2, 1) := by decide +kernel
theorem dX11_peak_47 : decode cX11_peak 47 = .ok (.goto 8, 3) := by decide +kernel
theorem dX11_peak_50 : decode cX11_peak 50 = .ok (.aload_n 0, 1) := by decide +kernel
theorem dX11_peak_51 : decode cX11_peak 51 = .ok (.iload_n 2, 1) := by decide +kernel
theorem dX11_peak_52 : decode cX11_peak 52 = .ok (.invokevirtual 413, 3) := by decide +kernel
theorem dX11_peak_55 : decode cX11_peak 55 = .ok (.ireturn, 1) := by decide +kernel
theorem dX11_recall_0 : decode cX11_recall 0 = .ok (.iload_n 1, 1) := by decide +kernel
theorem dX11_recall_1 : decode cX11_recall 1 = .ok (.iconst 0, 1) := by decide +kernel
theorem dX11_recall_2 : decode cX11_recall 2 = .ok (.iconst 5, 1) := by decide +kernel
theorem dX11_recall_3 : decode cX11_recall 3 = .ok (.invokestatic 99, 3) := by decide +kernel
theorem dX11_recall_6 : decode cX11_recall 6 = .ok (.ifCond .eq 27, 3) := by decide +kernel
theorem dX11_recall_9 : decode cX11_recall 9 = .ok (.iload_n 2, 1) := by decide +kernel
theorem dX11_recall_10 : decode cX11_recall 10 = .ok (.iconst 0, 1) := by decide +kernel
theorem dX11_recall_11 : decode cX11_recall 11 = .ok (.bipush 99, 2) := by decide +kernel
theorem dX11_recall_13 : decode cX11_recall 13 = .ok (.invokestatic 99, 3) := by decide +kernel
theorem dX11_recall_16 : decode cX11_recall 16 = .ok (.ifCond .eq 17, 3) := by decide +kernel
theorem dX11_recall_19 : decode cX11_recall 19 = .ok (.iload_n 3, 1) := by decide +kernel
theorem dX11_recall_20 : decode cX11_recall 20 = .ok (.iload_n 2, 1) := by decide +kernel
theorem dX11_recall_21 : decode cX11_recall 21 = .ok (.bipush 99, 2) := by decide +kernel
theorem dX11_recall_23 : decode cX11_recall 23 = .ok (.invokestatic 99, 3) := by decide +kernel
theorem dX11_recall_26 : decode cX11_recall 26 = .ok (.ifCond .eq 7, 3) := by decide +kernel
theorem dX11_recall_29 : decode cX11_recall 29 = .ok (.iconst 1, 1) := by decide +kernel
theorem dX11_recall_30 : decode cX11_recall 30 = .ok (.goto 4, 3) := by decide +kernel
theorem dX11_recall_33 : decode cX11_recall 33 = .ok (.iconst 0, 1) := by decide +kernel
theorem dX11_recall_34 : decode cX11_recall 34 = .ok (.istore 4, 2) := by decide +kernel
theorem dX11_recall_36 : decode cX11_recall 36 = .ok (.iload 4, 2) := by decide +kernel
theorem dX11_recall_38 : decode cX11_recall 38 = .ok (.ifCond .eq 15, 3) := by decide +kernel
theorem dX11_recall_41 : decode cX11_recall 41 = .ok (.aload_n 0, 1) := by decide +kernel
theorem dX11_recall_42 : decode cX11_recall 42 = .ok (.getfield 41, 3) := by decide +kernel
theorem dX11_recall_45 : decode cX11_recall 45 = .ok (.invokevirtual 103, 3) := by decide +kernel
theorem dX11_recall_48 : decode cX11_recall 48 = .ok (.bipush 10, 2) := by decide +kernel
theorem dX11_recall_50 : decode cX11_recall 50 = .ok (.if_icmp .lt 5, 3) := by decide +kernel
theorem dX11_recall_53 : decode cX11_recall 53 = .ok (.iconst (-1), 1) := by decide +kernel
theorem dX11_recall_54 : decode cX11_recall 54 = .ok (.ireturn, 1) := by decide +kernel
theorem dX11_recall_55 : decode cX11_recall 55 = .ok (.new 416, 3) := by decide +kernel
theorem dX11_recall_58 : decode cX11_recall 58 = .ok (.dup, 1) := by decide +kernel
theorem dX11_recall_59 : decode cX11_recall 59 = .ok (.iload_n 1, 1) := by decide +kernel
theorem dX11_recall_60 : decode cX11_recall 60 = .ok (.iload_n 2, 1) := by decide +kernel
theorem dX11_recall_61 : decode cX11_recall 61 = .ok (.iload_n 3, 1) := by decide +kernel
theorem dX11_recall_62 : decode cX11_recall 62 = .ok (.aload_n 0, 1) := by decide +kernel
theorem dX11_recall_63 : decode cX11_recall 63 = .ok (.getfield 95, 3) := by decide +kernel
theorem dX11_recall_66 : decode cX11_recall 66 = .ok (.invokespecial 418, 3) := by decide +kernel
theorem dX11_recall_69 : decode cX11_recall 69 = .ok (.astore 5, 2) := by decide +kernel
theorem dX11_recall_71 : decode cX11_recall 71 = .ok (.aload 5, 2) := by decide +kernel
theorem dX11_recall_73 : decode cX11_recall 73 = .ok (.aload_n 0, 1) := by decide +kernel
theorem dX11_recall_74 : decode cX11_recall 74 = .ok (.aload 5, 2) := by decide +kernel
theorem dX11_recall_76 : decode cX11_recall 76 = .ok (.invokevirtual 419, 3) := by decide +kernel
theorem dX11_recall_79 : decode cX11_recall 79 = .ok (.putfield 423, 3) := by decide +kernel
theorem dX11_recall_82 : decode cX11_recall 82 = .ok (.aload_n 0, 1) := by decide +kernel
theorem dX11_recall_83 : decode cX11_recall 83 = .ok (.getfield 41, 3) := by decide +kernel
theorem dX11_recall_86 : decode cX11_recall 86 = .ok (.aload 5, 2) := by decide +kernel
theorem dX11_recall_88 : decode cX11_recall 88 = .ok (.invokevirtual 112, 3) := by decide +kernel
theorem dX11_recall_91 : decode cX11_recall 91 = .ok (.pop, 1) := by decide +kernel
theorem dX11_recall_92 : decode cX11_recall 92 = .ok (.aload_n 0, 1) := by decide +kernel
theorem dX11_recall_93 : decode cX11_recall 93 = .ok (.getfield 41, 3) := by decide +kernel
theorem dX11_recall_96 : decode cX11_recall 96 = .ok (.invokevirtual 103, 3) := by decide +kernel
theorem dX11_recall_99 : decode cX11_recall 99 = .ok (.iconst 1, 1) := by decide +kernel
theorem dX11_recall_100 : decode cX11_recall 100 = .ok (.isub, 1) := by decide +kernel
theorem dX11_recall_101 : decode cX11_recall 101 = .ok (.ireturn, 1) := by decide +kernel
theorem dX11_told_0 : decode cX11_told 0 = .ok (.aload_n 0, 1) := by decide +kernel
theorem dX11_told_1 : decode cX11_told 1 = .ok (.iload_n 1, 1) := by decide +kernel
theorem dX11_told_2 : decode cX11_told 2 = .ok (.invokevirtual 426, 3) := by decide +kernel
theorem dX11_told_5 : decode cX11_told 5 = .ok (.astore_n 3, 1) := by decide +kernel
theorem dX11_told_6 : decode cX11_told 6 = .ok (.aload_n 3, 1) := by decide +kernel
theorem dX11_told_7 : decode cX11_told 7 = .ok (.ifnull 19, 3) := by decide +kernel
theorem dX11_told_10 : decode cX11_told 10 = .ok (.aload_n 0, 1) := by decide +kernel
theorem dX11_told_11 : decode cX11_told 11 = .ok (.iload_n 2, 1) := by decide +kernel
theorem dX11_told_12 : decode cX11_told 12 = .ok (.invokevirtual 192, 3) := by decide +kernel
theorem dX11_told_15 : decode cX11_told 15 = .ok (.ifnull 11, 3) := by decide +kernel
theorem dX11_told_18 : decode cX11_told 18 = .ok (.aload_n 3, 1) := by decide +kernel
theorem dX11_told_19 : decode cX11_told 19 = .ok (.iload_n 2, 1) := by decide +kernel
theorem dX11_told_20 : decode cX11_told 20 = .ok (.invokevirtual 430, 3) := by decide +kernel
theorem dX11_told_23 : decode cX11_told 23 = .ok (.ifCond .eq 5, 3) := by decide +kernel
theorem dX11_told_26 : decode cX11_told 26 = .ok (.iconst 0, 1) := by decide +kernel
theorem dX11_told_27 : decode cX11_told 27 = .ok (.ireturn, 1) := by decide +kernel
theorem dX11_told_28 : decode cX11_told 28 = .ok (.aload_n 3, 1) := by decide +kernel
theorem dX11_told_29 : decode cX11_told 29 = .ok (.iload_n 2, 1) := by decide +kernel
theorem dX11_told_30 : decode cX11_told 30 = .ok (.aload_n 0, 1) := by decide +kernel
theorem dX11_told_31 : decode cX11_told 31 = .ok (.getfield 95, 3) := by decide +kernel
theorem dX11_told_34 : decode cX11_told 34 = .ok (.invokevirtual 433, 3) := by decide +kernel
theorem dX11_told_37 : decode cX11_told 37 = .ok (.iconst 1, 1) := by decide +kernel
theorem dX11_told_38 : decode cX11_told 38 = .ok (.ireturn, 1) := by decide +kernel
theorem dX11_recalled_0 : decode cX11_recalled 0 = .ok (.aload_n 0, 1) := by decide +kernel
theorem dX11_recalled_1 : decode cX11_recalled 1 = .ok (.iload_n 1, 1) := by decide +kernel
theorem dX11_recalled_2 : decode cX11_recalled 2 = .ok (.invokevirtual 426, 3) := by decide +kernel
theorem dX11_recalled_5 : decode cX11_recalled 5 = .ok (.astore_n 3, 1) := by decide +kernel
theorem dX11_recalled_6 : decode cX11_recalled 6 = .ok (.aload_n 3, 1) := by decide +kernel
theorem dX11_recalled_7 : decode cX11_recalled 7 = .ok (.ifnonnull 5, 3) := by decide +kernel
theorem dX11_recalled_10 : decode cX11_recalled 10 = .ok (.iconst (-1), 1) := by decide +kernel
theorem dX11_recalled_11 : decode cX11_recalled 11 = .ok (.ireturn, 1) := by decide +kernel
theorem dX11_recalled_12 : decode cX11_recalled 12 = .ok (.iload_n 2, 1) := by decide +kernel
theorem dX11_recalled_13 : decode cX11_recalled 13 = .ok (.tableswitch 60 0 3 #[31, 37, 42, 47], 31) := by decide +kernel
theorem dX11_recalled_44 : decode cX11_recalled 44 = .ok (.aload_n 0, 1) := by decide +kernel
theorem dX11_recalled_45 : decode cX11_recalled 45 = .ok (.aload_n 3, 1) := by decide +kernel
theorem dX11_recalled_46 : decode cX11_recalled 46 = .ok (.invokevirtual 436, 3) := by decide +kernel
theorem dX11_recalled_49 : decode cX11_recalled 49 = .ok (.ireturn, 1) := by decide +kernel
theorem dX11_recalled_50 : decode cX11_recalled 50 = .ok (.aload_n 3, 1) := by decide +kernel
theorem dX11_recalled_51 : decode cX11_recalled 51 = .ok (.getfield 423, 3) := by decide +kernel
theorem dX11_recalled_54 : decode cX11_recalled 54 = .ok (.ireturn, 1) := by decide +kernel
theorem dX11_recalled_55 : decode cX11_recalled 55 = .ok (.aload_n 3, 1) := by decide +kernel
theorem dX11_recalled_56 : decode cX11_recalled 56 = .ok (.invokevirtual 439, 3) := by decide +kernel
theorem dX11_recalled_59 : decode cX11_recalled 59 = .ok (.ireturn, 1) := by decide +kernel
theorem dX11_recalled_60 : decode cX11_recalled 60 = .ok (.aload_n 0, 1) := by decide +kernel
theorem dX11_recalled_61 : decode cX11_recalled 61 = .ok (.aload_n 3, 1) := by decide +kernel
theorem dX11_recalled_62 : decode cX11_recalled 62 = .ok (.invokevirtual 419, 3) := by decide +kernel
theorem dX11_recalled_65 : decode cX11_recalled 65 = .ok (.aload_n 3, 1) := by decide +kernel
theorem dX11_recalled_66 : decode cX11_recalled 66 = .ok (.invokevirtual 442, 3) := by decide +kernel
theorem dX11_recalled_69 : decode cX11_recalled 69 = .ok (.iconst (-1), 1) := by decide +kernel
theorem dX11_recalled_70 : decode cX11_recalled 70 = .ok (.ixor, 1) := by decide +kernel
theorem dX11_recalled_71 : decode cX11_recalled 71 = .ok (.iand, 1) := by decide +kernel
theorem dX11_recalled_72 : decode cX11_recalled 72 = .ok (.ireturn, 1) := by decide +kernel
theorem dX11_recalled_73 : decode cX11_recalled 73 = .ok (.iconst (-1), 1) := by decide +kernel
theorem dX11_recalled_74 : decode cX11_recalled 74 = .ok (.ireturn, 1) := by decide +kernel
theorem dX11_owes_0 : decode cX11_owes 0 = .ok (.aload_n 0, 1) := by decide +kernel
theorem dX11_owes_1 : decode cX11_owes 1 = .ok (.iload_n 1, 1) := by decide +kernel
theorem dX11_owes_2 : decode cX11_owes 2 = .ok (.invokevirtual 192, 3) := by decide +kernel
theorem dX11_owes_5 : decode cX11_owes 5 = .ok (.astore_n 2, 1) := by decide +kernel
theorem dX11_owes_6 : decode cX11_owes 6 = .ok (.aload_n 2, 1) := by decide +kernel
theorem dX11_owes_7 : decode cX11_owes 7 = .ok (.ifnonnull 7, 3) := by decide +kernel
theorem dX11_owes_10 : decode cX11_owes 10 = .ok (.iconst (-1), 1) := by decide +kernel
theorem dX11_owes_11 : decode cX11_owes 11 = .ok (.goto 7, 3) := by decide +kernel
theorem dX11_owes_14 : decode cX11_owes 14 = .ok (.aload_n 2, 1) := by decide +kernel
theorem dX11_owes_15 : decode cX11_owes 15 = .ok (.getfield 257, 3) := by decide +kernel
theorem dX11_owes_18 : decode cX11_owes 18 = .ok (.ireturn, 1) := by decide +kernel
theorem dX11_pays_0 : decode cX11_pays 0 = .ok (.aload_n 0, 1) := by decide +kernel
theorem dX11_pays_1 : decode cX11_pays 1 = .ok (.iload_n 1, 1) := by decide +kernel
theorem dX11_pays_2 : decode cX11_pays 2 = .ok (.invokevirtual 192, 3) := by decide +kernel
theorem dX11_pays_5 : decode cX11_pays 5 = .ok (.astore_n 3, 1) := by decide +kernel
theorem dX11_pays_6 : decode cX11_pays 6 = .ok (.aload_n 3, 1) := by decide +kernel
theorem dX11_pays_7 : decode cX11_pays 7 = .ok (.ifnull 16, 3) := by decide +kernel
theorem dX11_pays_10 : decode cX11_pays 10 = .ok (.iload_n 2, 1) := by decide +kernel
theorem dX11_pays_11 : decode cX11_pays 11 = .ok (.iconst 1, 1) := by decide +kernel
theorem dX11_pays_12 : decode cX11_pays 12 = .ok (.if_icmp .lt 11, 3) := by decide +kernel
theorem dX11_pays_15 : decode cX11_pays 15 = .ok (.iload_n 2, 1) := by decide +kernel
theorem dX11_pays_16 : decode cX11_pays 16 = .ok (.aload_n 3, 1) := by decide +kernel
theorem dX11_pays_17 : decode cX11_pays 17 = .ok (.getfield 257, 3) := by decide +kernel
theorem dX11_pays_20 : decode cX11_pays 20 = .ok (.if_icmp .le 5, 3) := by decide +kernel
theorem dX11_pays_23 : decode cX11_pays 23 = .ok (.iconst (-1), 1) := by decide +kernel
theorem dX11_pays_24 : decode cX11_pays 24 = .ok (.ireturn, 1) := by decide +kernel
theorem dX11_pays_25 : decode cX11_pays 25 = .ok (.aload_n 3, 1) := by decide +kernel
theorem dX11_pays_26 : decode cX11_pays 26 = .ok (.dup, 1) := by decide +kernel
theorem dX11_pays_27 : decode cX11_pays 27 = .ok (.getfield 257, 3) := by decide +kernel
theorem dX11_pays_30 : decode cX11_pays 30 = .ok (.iload_n 2, 1) := by decide +kernel
theorem dX11_pays_31 : decode cX11_pays 31 = .ok (.isub, 1) := by decide +kernel
theorem dX11_pays_32 : decode cX11_pays 32 = .ok (.putfield 257, 3) := by decide +kernel
theorem dX11_pays_35 : decode cX11_pays 35 = .ok (.aload_n 3, 1) := by decide +kernel
theorem dX11_pays_36 : decode cX11_pays 36 = .ok (.getfield 257, 3) := by decide +kernel
theorem dX11_pays_39 : decode cX11_pays 39 = .ok (.ireturn, 1) := by decide +kernel
theorem dX11_forgiving_0 : decode cX11_forgiving 0 = .ok (.iload_n 1, 1) := by decide +kernel
theorem dX11_forgiving_1 : decode cX11_forgiving 1 = .ok (.iconst 0, 1) := by decide +kernel
theorem dX11_forgiving_2 : decode cX11_forgiving 2 = .ok (.aload_n 0, 1) := by decide +kernel
theorem dX11_forgiving_3 : decode cX11_forgiving 3 = .ok (.getfield 25, 3) := by decide +kernel
theorem dX11_forgiving_6 : decode cX11_forgiving 6 = .ok (.arraylength, 1) := by decide +kernel
theorem dX11_forgiving_7 : decode cX11_forgiving 7 = .ok (.iconst 1, 1) := by decide +kernel
theorem dX11_forgiving_8 : decode cX11_forgiving 8 = .ok (.isub, 1) := by decide +kernel
theorem dX11_forgiving_9 : decode cX11_forgiving 9 = .ok (.invokestatic 99, 3) := by decide +kernel
theorem dX11_forgiving_12 : decode cX11_forgiving 12 = .ok (.ifCond .eq 12, 3) := by decide +kernel
theorem dX11_forgiving_15 : decode cX11_forgiving 15 = .ok (.aload_n 0, 1) := by decide +kernel
theorem dX11_forgiving_16 : decode cX11_forgiving 16 = .ok (.getfield 25, 3) := by decide +kernel
theorem dX11_forgiving_19 : decode cX11_forgiving 19 = .ok (.iload_n 1, 1) := by decide +kernel
theorem dX11_forgiving_20 : decode cX11_forgiving 20 = .ok (.iaload, 1) := by decide +kernel
theorem dX11_forgiving_21 : decode cX11_forgiving 21 = .ok (.goto 4, 3) := by decide +kernel
theorem dX11_forgiving_24 : decode cX11_forgiving 24 = .ok (.iconst (-1), 1) := by decide +kernel
theorem dX11_forgiving_25 : decode cX11_forgiving 25 = .ok (.ireturn, 1) := by decide +kernel
theorem dX11_count_0 : decode cX11_count 0 = .ok (.iload_n 1, 1) := by decide +kernel
theorem dX11_count_1 : decode cX11_count 1 = .ok (.tableswitch 117 0 8 #[51, 56, 64, 72, 80, 91, 96, 104, 109], 51) := by decide +kernel
theorem dX11_count_52 : decode cX11_count 52 = .ok (.aload_n 0, 1) := by decide +kernel
theorem dX11_count_53 : decode cX11_count 53 = .ok (.getfield 95, 3) := by decide +kernel
theorem dX11_count_56 : decode cX11_count 56 = .ok (.ireturn, 1) := by decide +kernel
theorem dX11_count_57 : decode cX11_count 57 = .ok (.aload_n 0, 1) := by decide +kernel
theorem dX11_count_58 : decode cX11_count 58 = .ok (.getfield 31, 3) := by decide +kernel
theorem dX11_count_61 : decode cX11_count 61 = .ok (.invokevirtual 103, 3) := by decide +kernel
theorem dX11_count_64 : decode cX11_count 64 = .ok (.ireturn, 1) := by decide +kernel
theorem dX11_count_65 : decode cX11_count 65 = .ok (.aload_n 0, 1) := by decide +kernel
theorem dX11_count_66 : decode cX11_count 66 = .ok (.getfield 35, 3) := by decide +kernel
theorem dX11_count_69 : decode cX11_count 69 = .ok (.invokevirtual 103, 3) := by decide +kernel
theorem dX11_count_72 : decode cX11_count 72 = .ok (.ireturn, 1) := by decide +kernel
theorem dX11_count_73 : decode cX11_count 73 = .ok (.aload_n 0, 1) := by decide +kernel
theorem dX11_count_74 : decode cX11_count 74 = .ok (.getfield 38, 3) := by decide +kernel
theorem dX11_count_77 : decode cX11_count 77 = .ok (.invokevirtual 103, 3) := by decide +kernel
theorem dX11_count_80 : decode cX11_count 80 = .ok (.ireturn, 1) := by decide +kernel
theorem dX11_count_81 : decode cX11_count 81 = .ok (.aload_n 0, 1) := by decide +kernel
theorem dX11_count_82 : decode cX11_count 82 = .ok (.getfield 56, 3) := by decide +kernel
theorem dX11_count_85 : decode cX11_count 85 = .ok (.getfield 182, 3) := by decide +kernel
theorem dX11_count_88 : decode cX11_count 88 = .ok (.getfield 185, 3) := by decide +kernel
theorem dX11_count_91 : decode cX11_count 91 = .ok (.ireturn, 1) := by decide +kernel
theorem dX11_count_92 : decode cX11_count 92 = .ok (.aload_n 0, 1) := by decide +kernel
theorem dX11_count_93 : decode cX11_count 93 = .ok (.getfield 165, 3) := by decide +kernel
theorem dX11_count_96 : decode cX11_count 96 = .ok (.ireturn, 1) := by decide +kernel
theorem dX11_count_97 : decode cX11_count 97 = .ok (.aload_n 0, 1) := by decide +kernel
theorem dX11_count_98 : decode cX11_count 98 = .ok (.getfield 41, 3) := by decide +kernel
theorem dX11_count_101 : decode cX11_count 101 = .ok (.invokevirtual 103, 3) := by decide +kernel
theorem dX11_count_104 : decode cX11_count 104 = .ok (.ireturn, 1) := by decide +kernel
theorem dX11_count_105 : decode cX11_count 105 = .ok (.aload_n 0, 1) := by decide +kernel
theorem dX11_count_106 : decode cX11_count 106 = .ok (.getfield 155, 3) := by decide +kernel
theorem dX11_count_109 : decode cX11_count 109 = .ok (.ireturn, 1) := by decide +kernel
theorem dX11_count_110 : decode cX11_count 110 = .ok (.aload_n 0, 1) := by decide +kernel
theorem dX11_count_111 : decode cX11_count 111 = .ok (.getfield 63, 3) := by decide +kernel
theorem dX11_count_114 : decode cX11_count 114 = .ok (.getfield 445, 3) := by decide +kernel
theorem dX11_count_117 : decode cX11_count 117 = .ok (.ireturn, 1) := by decide +kernel
theorem dX11_count_118 : decode cX11_count 118 = .ok (.aload_n 0, 1) := by decide +kernel
theorem dX11_count_119 : decode cX11_count 119 = .ok (.iload_n 1, 1) := by decide +kernel
theorem dX11_count_120 : decode cX11_count 120 = .ok (.invokevirtual 448, 3) := by decide +kernel
theorem dX11_count_123 : decode cX11_count 123 = .ok (.ireturn, 1) := by decide +kernel
theorem dX11_countOfOne_0 : decode cX11_countOfOne 0 = .ok (.iload_n 1, 1) := by decide +kernel
theorem dX11_countOfOne_1 : decode cX11_countOfOne 1 = .ok (.bipush 10, 2) := by decide +kernel
theorem dX11_countOfOne_3 : decode cX11_countOfOne 3 = .ok (.if_icmp .ge 5, 3) := by decide +kernel
theorem dX11_countOfOne_6 : decode cX11_countOfOne 6 = .ok (.iconst (-1), 1) := by decide +kernel
theorem dX11_countOfOne_7 : decode cX11_countOfOne 7 = .ok (.ireturn, 1) := by decide +kernel
theorem dX11_countOfOne_8 : decode cX11_countOfOne 8 = .ok (.iload_n 1, 1) := by decide +kernel
theorem dX11_countOfOne_9 : decode cX11_countOfOne 9 = .ok (.bipush 20, 2) := by decide +kernel
theorem dX11_countOfOne_11 : decode cX11_countOfOne 11 = .ok (.if_icmp .ge 26, 3) := by decide +kernel
theorem dX11_countOfOne_14 : decode cX11_countOfOne 14 = .ok (.aload_n 0, 1) := by decide +kernel
theorem dX11_countOfOne_15 : decode cX11_countOfOne 15 = .ok (.iload_n 1, 1) := by decide +kernel
theorem dX11_countOfOne_16 : decode cX11_countOfOne 16 = .ok (.bipush 10, 2) := by decide +kernel
theorem dX11_countOfOne_18 : decode cX11_countOfOne 18 = .ok (.isub, 1) := by decide +kernel
theorem dX11_countOfOne_19 : decode cX11_countOfOne 19 = .ok (.invokevirtual 119, 3) := by decide +kernel
theorem dX11_countOfOne_22 : decode cX11_countOfOne 22 = .ok (.astore_n 2, 1) := by decide +kernel
theorem dX11_countOfOne_23 : decode cX11_countOfOne 23 = .ok (.aload_n 2, 1) := by decide +kernel
theorem dX11_countOfOne_24 : decode cX11_countOfOne 24 = .ok (.ifnonnull 7, 3) := by decide +kernel
theorem dX11_countOfOne_27 : decode cX11_countOfOne 27 = .ok (.iconst (-1), 1) := by decide +kernel
theorem dX11_countOfOne_28 : decode cX11_countOfOne 28 = .ok (.goto 8, 3) := by decide +kernel
theorem dX11_countOfOne_31 : decode cX11_countOfOne 31 = .ok (.aload_n 0, 1) := by decide +kernel
theorem dX11_countOfOne_32 : decode cX11_countOfOne 32 = .ok (.aload_n 2, 1) := by decide +kernel
theorem dX11_countOfOne_33 : decode cX11_countOfOne 33 = .ok (.invokevirtual 347, 3) := by decide +kernel
theorem dX11_countOfOne_36 : decode cX11_countOfOne 36 = .ok (.ireturn, 1) := by decide +kernel
theorem dX11_countOfOne_37 : decode cX11_countOfOne 37 = .ok (.aload_n 0, 1) := by decide +kernel
theorem dX11_countOfOne_38 : decode cX11_countOfOne 38 = .ok (.iload_n 1, 1) := by decide +kernel
theorem dX11_countOfOne_39 : decode cX11_countOfOne 39 = .ok (.bipush 20, 2) := by decide +kernel
theorem dX11_countOfOne_41 : decode cX11_countOfOne 41 = .ok (.isub, 1) := by decide +kernel
theorem dX11_countOfOne_42 : decode cX11_countOfOne 42 = .ok (.invokevirtual 192, 3) := by decide +kernel
theorem dX11_countOfOne_45 : decode cX11_countOfOne 45 = .ok (.astore_n 2, 1) := by decide +kernel
theorem dX11_countOfOne_46 : decode cX11_countOfOne 46 = .ok (.aload_n 2, 1) := by decide +kernel
theorem dX11_countOfOne_47 : decode cX11_countOfOne 47 = .ok (.ifnonnull 7, 3) := by decide +kernel
theorem dX11_countOfOne_50 : decode cX11_countOfOne 50 = .ok (.iconst (-1), 1) := by decide +kernel
theorem dX11_countOfOne_51 : decode cX11_countOfOne 51 = .ok (.goto 8, 3) := by decide +kernel
theorem dX11_countOfOne_54 : decode cX11_countOfOne 54 = .ok (.aload_n 0, 1) := by decide +kernel
theorem dX11_countOfOne_55 : decode cX11_countOfOne 55 = .ok (.aload_n 2, 1) := by decide +kernel
theorem dX11_countOfOne_56 : decode cX11_countOfOne 56 = .ok (.invokevirtual 451, 3) := by decide +kernel
theorem dX11_countOfOne_59 : decode cX11_countOfOne 59 = .ok (.ireturn, 1) := by decide +kernel
theorem dX11_within_0 : decode cX11_within 0 = .ok (.iload_n 0, 1) := by decide +kernel
theorem dX11_within_1 : decode cX11_within 1 = .ok (.iload_n 1, 1) := by decide +kernel
theorem dX11_within_2 : decode cX11_within 2 = .ok (.if_icmp .lt 12, 3) := by decide +kernel
theorem dX11_within_5 : decode cX11_within 5 = .ok (.iload_n 0, 1) := by decide +kernel
theorem dX11_within_6 : decode cX11_within 6 = .ok (.iload_n 2, 1) := by decide +kernel
theorem dX11_within_7 : decode cX11_within 7 = .ok (.if_icmp .gt 7, 3) := by decide +kernel
theorem dX11_within_10 : decode cX11_within 10 = .ok (.iconst 1, 1) := by decide +kernel
theorem dX11_within_11 : decode cX11_within 11 = .ok (.goto 4, 3) := by decide +kernel
theorem dX11_within_14 : decode cX11_within 14 = .ok (.iconst 0, 1) := by decide +kernel
theorem dX11_within_15 : decode cX11_within 15 = .ok (.ireturn, 1) := by decide +kernel
theorem dX11_kindAt_0 : decode cX11_kindAt 0 = .ok (.iload_n 1, 1) := by decide +kernel
theorem dX11_kindAt_1 : decode cX11_kindAt 1 = .ok (.iconst 0, 1) := by decide +kernel
theorem dX11_kindAt_2 : decode cX11_kindAt 2 = .ok (.aload_n 0, 1) := by decide +kernel
theorem dX11_kindAt_3 : decode cX11_kindAt 3 = .ok (.getfield 31, 3) := by decide +kernel
theorem dX11_kindAt_6 : decode cX11_kindAt 6 = .ok (.invokevirtual 103, 3) := by decide +kernel
theorem dX11_kindAt_9 : decode cX11_kindAt 9 = .ok (.iconst 1, 1) := by decide +kernel
theorem dX11_kindAt_10 : decode cX11_kindAt 10 = .ok (.isub, 1) := by decide +kernel
theorem dX11_kindAt_11 : decode cX11_kindAt 11 = .ok (.invokestatic 99, 3) := by decide +kernel
theorem dX11_kindAt_14 : decode cX11_kindAt 14 = .ok (.ifCond .eq 17, 3) := by decide +kernel
theorem dX11_kindAt_17 : decode cX11_kindAt 17 = .ok (.aload_n 0, 1) := by decide +kernel
theorem dX11_kindAt_18 : decode cX11_kindAt 18 = .ok (.getfield 31, 3) := by decide +kernel
theorem dX11_kindAt_21 : decode cX11_kindAt 21 = .ok (.iload_n 1, 1) := by decide +kernel
theorem dX11_kindAt_22 : decode cX11_kindAt 22 = .ok (.invokevirtual 324, 3) := by decide +kernel
theorem dX11_kindAt_25 : decode cX11_kindAt 25 = .ok (.checkcast 107, 3) := by decide +kernel
theorem dX11_kindAt_28 : decode cX11_kindAt 28 = .ok (.goto 4, 3) := by decide +kernel
theorem dX11_kindAt_31 : decode cX11_kindAt 31 = .ok (.aconst_null, 1) := by decide +kernel
theorem dX11_kindAt_32 : decode cX11_kindAt 32 = .ok (.areturn, 1) := by decide +kernel
theorem dX11_toyAt_0 : decode cX11_toyAt 0 = .ok (.iload_n 1, 1) := by decide +kernel
theorem dX11_toyAt_1 : decode cX11_toyAt 1 = .ok (.iconst 0, 1) := by decide +kernel
theorem dX11_toyAt_2 : decode cX11_toyAt 2 = .ok (.aload_n 0, 1) := by decide +kernel
theorem dX11_toyAt_3 : decode cX11_toyAt 3 = .ok (.getfield 35, 3) := by decide +kernel
theorem dX11_toyAt_6 : decode cX11_toyAt 6 = .ok (.invokevirtual 103, 3) := by decide +kernel
theorem dX11_toyAt_9 : decode cX11_toyAt 9 = .ok (.iconst 1, 1) := by decide +kernel
theorem dX11_toyAt_10 : decode cX11_toyAt 10 = .ok (.isub, 1) := by decide +kernel
theorem dX11_toyAt_11 : decode cX11_toyAt 11 = .ok (.invokestatic 99, 3) := by decide +kernel
theorem dX11_toyAt_14 : decode cX11_toyAt 14 = .ok (.ifCond .eq 17, 3) := by decide +kernel
theorem dX11_toyAt_17 : decode cX11_toyAt 17 = .ok (.aload_n 0, 1) := by decide +kernel
theorem dX11_toyAt_18 : decode cX11_toyAt 18 = .ok (.getfield 35, 3) := by decide +kernel
theorem dX11_toyAt_21 : decode cX11_toyAt 21 = .ok (.iload_n 1, 1) := by decide +kernel
theorem dX11_toyAt_22 : decode cX11_toyAt 22 = .ok (.invokevirtual 324, 3) := by decide +kernel
theorem dX11_toyAt_25 : decode cX11_toyAt 25 = .ok (.checkcast 133, 3) := by decide +kernel
theorem dX11_toyAt_28 : decode cX11_toyAt 28 = .ok (.goto 4, 3) := by decide +kernel
theorem dX11_toyAt_31 : decode cX11_toyAt 31 = .ok (.aconst_null, 1) := by decide +kernel
theorem dX11_toyAt_32 : decode cX11_toyAt 32 = .ok (.areturn, 1) := by decide +kernel
theorem dX11_familyAt_0 : decode cX11_familyAt 0 = .ok (.iload_n 1, 1) := by decide +kernel
theorem dX11_familyAt_1 : decode cX11_familyAt 1 = .ok (.iconst 0, 1) := by decide +kernel
theorem dX11_familyAt_2 : decode cX11_familyAt 2 = .ok (.aload_n 0, 1) := by decide +kernel
theorem dX11_familyAt_3 : decode cX11_familyAt 3 = .ok (.getfield 38, 3) := by decide +kernel
theorem dX11_familyAt_6 : decode cX11_familyAt 6 = .ok (.invokevirtual 103, 3) := by decide +kernel
theorem dX11_familyAt_9 : decode cX11_familyAt 9 = .ok (.iconst 1, 1) := by decide +kernel
theorem dX11_familyAt_10 : decode cX11_familyAt 10 = .ok (.isub, 1) := by decide +kernel
theorem dX11_familyAt_11 : decode cX11_familyAt 11 = .ok (.invokestatic 99, 3) := by decide +kernel
theorem dX11_familyAt_14 : decode cX11_familyAt 14 = .ok (.ifCond .eq 17, 3) := by decide +kernel
theorem dX11_familyAt_17 : decode cX11_familyAt 17 = .ok (.aload_n 0, 1) := by decide +kernel
theorem dX11_familyAt_18 : decode cX11_familyAt 18 = .ok (.getfield 38, 3) := by decide +kernel
theorem dX11_familyAt_21 : decode cX11_familyAt 21 = .ok (.iload_n 1, 1) := by decide +kernel
theorem dX11_familyAt_22 : decode cX11_familyAt 22 = .ok (.invokevirtual 324, 3) := by decide +kernel
theorem dX11_familyAt_25 : decode cX11_familyAt 25 = .ok (.checkcast 139, 3) := by decide +kernel
theorem dX11_familyAt_28 : decode cX11_familyAt 28 = .ok (.goto 4, 3) := by decide +kernel
theorem dX11_familyAt_31 : decode cX11_familyAt 31 = .ok (.aconst_null, 1) := by decide +kernel
theorem dX11_familyAt_32 : decode cX11_familyAt 32 = .ok (.areturn, 1) := by decide +kernel
theorem dX11_recallAt_0 : decode cX11_recallAt 0 = .ok (.iload_n 1, 1) := by decide +kernel
theorem dX11_recallAt_1 : decode cX11_recallAt 1 = .ok (.iconst 0, 1) := by decide +kernel
theorem dX11_recallAt_2 : decode cX11_recallAt 2 = .ok (.aload_n 0, 1) := by decide +kernel
theorem dX11_recallAt_3 : decode cX11_recallAt 3 = .ok (.getfield 41, 3) := by decide +kernel
theorem dX11_recallAt_6 : decode cX11_recallAt 6 = .ok (.invokevirtual 103, 3) := by decide +kernel
theorem dX11_recallAt_9 : decode cX11_recallAt 9 = .ok (.iconst 1, 1) := by decide +kernel
theorem dX11_recallAt_10 : decode cX11_recallAt 10 = .ok (.isub, 1) := by decide +kernel
theorem dX11_recallAt_11 : decode cX11_recallAt 11 = .ok (.invokestatic 99, 3) := by decide +kernel
theorem dX11_recallAt_14 : decode cX11_recallAt 14 = .ok (.ifCond .eq 17, 3) := by decide +kernel
theorem dX11_recallAt_17 : decode cX11_recallAt 17 = .ok (.aload_n 0, 1) := by decide +kernel
theorem dX11_recallAt_18 : decode cX11_recallAt 18 = .ok (.getfield 41, 3) := by decide +kernel
theorem dX11_recallAt_21 : decode cX11_recallAt 21 = .ok (.iload_n 1, 1) := by decide +kernel
theorem dX11_recallAt_22 : decode cX11_recallAt 22 = .ok (.invokevirtual 324, 3) := by decide +kernel
theorem dX11_recallAt_25 : decode cX11_recallAt 25 = .ok (.checkcast 416, 3) := by decide +kernel
theorem dX11_recallAt_28 : decode cX11_recallAt 28 = .ok (.goto 4, 3) := by decide +kernel
theorem dX11_recallAt_31 : decode cX11_recallAt 31 = .ok (.aconst_null, 1) := by decide +kernel
theorem dX11_recallAt_32 : decode cX11_recallAt 32 = .ok (.areturn, 1) := by decide +kernel
theorem dX11_holderOf_0 : decode cX11_holderOf 0 = .ok (.aload_n 1, 1) := by decide +kernel
theorem dX11_holderOf_1 : decode cX11_holderOf 1 = .ok (.ifnull 11, 3) := by decide +kernel
theorem dX11_holderOf_4 : decode cX11_holderOf 4 = .ok (.aload_n 1, 1) := by decide +kernel
theorem dX11_holderOf_5 : decode cX11_holderOf 5 = .ok (.getfield 264, 3) := by decide +kernel
theorem dX11_holderOf_8 : decode cX11_holderOf 8 = .ok (.iconst 1, 1) := by decide +kernel
theorem dX11_holderOf_9 : decode cX11_holderOf 9 = .ok (.if_icmp .eq 7, 3) := by decide +kernel
theorem dX11_holderOf_12 : decode cX11_holderOf 12 = .ok (.aconst_null, 1) := by decide +kernel
theorem dX11_holderOf_13 : decode cX11_holderOf 13 = .ok (.goto 11, 3) := by decide +kernel
theorem dX11_holderOf_16 : decode cX11_holderOf 16 = .ok (.aload_n 0, 1) := by decide +kernel
theorem dX11_holderOf_17 : decode cX11_holderOf 17 = .ok (.aload_n 1, 1) := by decide +kernel
theorem dX11_holderOf_18 : decode cX11_holderOf 18 = .ok (.getfield 271, 3) := by decide +kernel
theorem dX11_holderOf_21 : decode cX11_holderOf 21 = .ok (.invokevirtual 192, 3) := by decide +kernel
theorem dX11_holderOf_24 : decode cX11_holderOf 24 = .ok (.areturn, 1) := by decide +kernel
theorem dX11_hasToys_0 : decode cX11_hasToys 0 = .ok (.iconst 0, 1) := by decide +kernel
theorem dX11_hasToys_1 : decode cX11_hasToys 1 = .ok (.istore_n 2, 1) := by decide +kernel
theorem dX11_hasToys_2 : decode cX11_hasToys 2 = .ok (.iload_n 2, 1) := by decide +kernel
theorem dX11_hasToys_3 : decode cX11_hasToys 3 = .ok (.aload_n 0, 1) := by decide +kernel
theorem dX11_hasToys_4 : decode cX11_hasToys 4 = .ok (.getfield 35, 3) := by decide +kernel
theorem dX11_hasToys_7 : decode cX11_hasToys 7 = .ok (.invokevirtual 103, 3) := by decide +kernel
theorem dX11_hasToys_10 : decode cX11_hasToys 10 = .ok (.if_icmp .ge 29, 3) := by decide +kernel
theorem dX11_hasToys_13 : decode cX11_hasToys 13 = .ok (.aload_n 0, 1) := by decide +kernel
theorem dX11_hasToys_14 : decode cX11_hasToys 14 = .ok (.getfield 35, 3) := by decide +kernel
theorem dX11_hasToys_17 : decode cX11_hasToys 17 = .ok (.iload_n 2, 1) := by decide +kernel
theorem dX11_hasToys_18 : decode cX11_hasToys 18 = .ok (.invokevirtual 324, 3) := by decide +kernel
theorem dX11_hasToys_21 : decode cX11_hasToys 21 = .ok (.checkcast 133, 3) := by decide +kernel
theorem dX11_hasToys_24 : decode cX11_hasToys 24 = .ok (.getfield 203, 3) := by decide +kernel
theorem dX11_hasToys_27 : decode cX11_hasToys 27 = .ok (.aload_n 1, 1) := by decide +kernel
theorem dX11_hasToys_28 : decode cX11_hasToys 28 = .ok (.if_acmp .ne 5, 3) := by decide +kernel
theorem dX11_hasToys_31 : decode cX11_hasToys 31 = .ok (.iconst 1, 1) := by decide +kernel
theorem dX11_hasToys_32 : decode cX11_hasToys 32 = .ok (.ireturn, 1) := by decide +kernel
theorem dX11_hasToys_33 : decode cX11_hasToys 33 = .ok (.iinc 2 1, 3) := by decide +kernel
theorem dX11_hasToys_36 : decode cX11_hasToys 36 = .ok (.goto (-34), 3) := by decide +kernel
theorem dX11_hasToys_39 : decode cX11_hasToys 39 = .ok (.iconst 0, 1) := by decide +kernel
theorem dX11_hasToys_40 : decode cX11_hasToys 40 = .ok (.ireturn, 1) := by decide +kernel
theorem dX11_isTerm_0 : decode cX11_isTerm 0 = .ok (.iload_n 1, 1) := by decide +kernel
theorem dX11_isTerm_1 : decode cX11_isTerm 1 = .ok (.tableswitch 69 0 3 #[31, 38, 52, 61], 31) := by decide +kernel
theorem dX11_isTerm_32 : decode cX11_isTerm 32 = .ok (.iload_n 2, 1) := by decide +kernel
theorem dX11_isTerm_33 : decode cX11_isTerm 33 = .ok (.iconst 0, 1) := by decide +kernel
theorem dX11_isTerm_34 : decode cX11_isTerm 34 = .ok (.iconst 4, 1) := by decide +kernel
theorem dX11_isTerm_35 : decode cX11_isTerm 35 = .ok (.invokestatic 99, 3) := by decide +kernel
theorem dX11_isTerm_38 : decode cX11_isTerm 38 = .ok (.ireturn, 1) := by decide +kernel
theorem dX11_isTerm_39 : decode cX11_isTerm 39 = .ok (.aload_n 0, 1) := by decide +kernel
theorem dX11_isTerm_40 : decode cX11_isTerm 40 = .ok (.iload_n 2, 1) := by decide +kernel
theorem dX11_isTerm_41 : decode cX11_isTerm 41 = .ok (.invokevirtual 192, 3) := by decide +kernel
theorem dX11_isTerm_44 : decode cX11_isTerm 44 = .ok (.ifnull 7, 3) := by decide +kernel
theorem dX11_isTerm_47 : decode cX11_isTerm 47 = .ok (.iconst 1, 1) := by decide +kernel
theorem dX11_isTerm_48 : decode cX11_isTerm 48 = .ok (.goto 4, 3) := by decide +kernel
theorem dX11_isTerm_51 : decode cX11_isTerm 51 = .ok (.iconst 0, 1) := by decide +kernel
theorem dX11_isTerm_52 : decode cX11_isTerm 52 = .ok (.ireturn, 1) := by decide +kernel
theorem dX11_isTerm_53 : decode cX11_isTerm 53 = .ok (.iload_n 2, 1) := by decide +kernel
theorem dX11_isTerm_54 : decode cX11_isTerm 54 = .ok (.iconst 0, 1) := by decide +kernel
theorem dX11_isTerm_55 : decode cX11_isTerm 55 = .ok (.sipush 699, 3) := by decide +kernel
theorem dX11_isTerm_58 : decode cX11_isTerm 58 = .ok (.invokestatic 99, 3) := by decide +kernel
theorem dX11_isTerm_61 : decode cX11_isTerm 61 = .ok (.ireturn, 1) := by decide +kernel
theorem dX11_isTerm_62 : decode cX11_isTerm 62 = .ok (.iload_n 2, 1) := by decide +kernel
theorem dX11_isTerm_63 : decode cX11_isTerm 63 = .ok (.iconst 0, 1) := by decide +kernel
theorem dX11_isTerm_64 : decode cX11_isTerm 64 = .ok (.bipush 9, 2) := by decide +kernel
theorem dX11_isTerm_66 : decode cX11_isTerm 66 = .ok (.invokestatic 99, 3) := by decide +kernel
theorem dX11_isTerm_69 : decode cX11_isTerm 69 = .ok (.ireturn, 1) := by decide +kernel
theorem dX11_isTerm_70 : decode cX11_isTerm 70 = .ok (.iconst 0, 1) := by decide +kernel
theorem dX11_isTerm_71 : decode cX11_isTerm 71 = .ok (.ireturn, 1) := by decide +kernel
theorem dX11_waitingFor_0 : decode cX11_waitingFor 0 = .ok (.iconst 0, 1) := by decide +kernel
theorem dX11_waitingFor_1 : decode cX11_waitingFor 1 = .ok (.istore_n 2, 1) := by decide +kernel
theorem dX11_waitingFor_2 : decode cX11_waitingFor 2 = .ok (.iconst 0, 1) := by decide +kernel
theorem dX11_waitingFor_3 : decode cX11_waitingFor 3 = .ok (.istore_n 3, 1) := by decide +kernel
theorem dX11_waitingFor_4 : decode cX11_waitingFor 4 = .ok (.iload_n 3, 1) := by decide +kernel
theorem dX11_waitingFor_5 : decode cX11_waitingFor 5 = .ok (.aload_n 0, 1) := by decide +kernel
theorem dX11_waitingFor_6 : decode cX11_waitingFor 6 = .ok (.getfield 38, 3) := by decide +kernel
theorem dX11_waitingFor_9 : decode cX11_waitingFor 9 = .ok (.invokevirtual 103, 3) := by decide +kernel
theorem dX11_waitingFor_12 : decode cX11_waitingFor 12 = .ok (.if_icmp .ge 33, 3) := by decide +kernel
theorem dX11_waitingFor_15 : decode cX11_waitingFor 15 = .ok (.aload_n 0, 1) := by decide +kernel
theorem dX11_waitingFor_16 : decode cX11_waitingFor 16 = .ok (.getfield 38, 3) := by decide +kernel
theorem dX11_waitingFor_19 : decode cX11_waitingFor 19 = .ok (.iload_n 3, 1) := by decide +kernel
theorem dX11_waitingFor_20 : decode cX11_waitingFor 20 = .ok (.invokevirtual 324, 3) := by decide +kernel
theorem dX11_waitingFor_23 : decode cX11_waitingFor 23 = .ok (.checkcast 139, 3) := by decide +kernel
theorem dX11_waitingFor_26 : decode cX11_waitingFor 26 = .ok (.aload_n 1, 1) := by decide +kernel
theorem dX11_waitingFor_27 : decode cX11_waitingFor 27 = .ok (.getfield 116, 3) := by decide +kernel
theorem dX11_waitingFor_30 : decode cX11_waitingFor 30 = .ok (.invokevirtual 335, 3) := by decide +kernel
theorem dX11_waitingFor_33 : decode cX11_waitingFor 33 = .ok (.ifCond .eq 6, 3) := by decide +kernel
theorem dX11_waitingFor_36 : decode cX11_waitingFor 36 = .ok (.iinc 2 1, 3) := by decide +kernel
theorem dX11_waitingFor_39 : decode cX11_waitingFor 39 = .ok (.iinc 3 1, 3) := by decide +kernel
theorem dX11_waitingFor_42 : decode cX11_waitingFor 42 = .ok (.goto (-38), 3) := by decide +kernel
theorem dX11_waitingFor_45 : decode cX11_waitingFor 45 = .ok (.iload_n 2, 1) := by decide +kernel
theorem dX11_waitingFor_46 : decode cX11_waitingFor 46 = .ok (.ireturn, 1) := by decide +kernel
theorem dX11_toysHeldBy_0 : decode cX11_toysHeldBy 0 = .ok (.iconst 0, 1) := by decide +kernel
theorem dX11_toysHeldBy_1 : decode cX11_toysHeldBy 1 = .ok (.istore_n 2, 1) := by decide +kernel
theorem dX11_toysHeldBy_2 : decode cX11_toysHeldBy 2 = .ok (.iconst 0, 1) := by decide +kernel
theorem dX11_toysHeldBy_3 : decode cX11_toysHeldBy 3 = .ok (.istore_n 3, 1) := by decide +kernel
theorem dX11_toysHeldBy_4 : decode cX11_toysHeldBy 4 = .ok (.iload_n 3, 1) := by decide +kernel
theorem dX11_toysHeldBy_5 : decode cX11_toysHeldBy 5 = .ok (.aload_n 0, 1) := by decide +kernel
theorem dX11_toysHeldBy_6 : decode cX11_toysHeldBy 6 = .ok (.getfield 35, 3) := by decide +kernel
theorem dX11_toysHeldBy_9 : decode cX11_toysHeldBy 9 = .ok (.invokevirtual 103, 3) := by decide +kernel
theorem dX11_toysHeldBy_12 : decode cX11_toysHeldBy 12 = .ok (.if_icmp .ge 33, 3) := by decide +kernel
theorem dX11_toysHeldBy_15 : decode cX11_toysHeldBy 15 = .ok (.aload_n 0, 1) := by decide +kernel
theorem dX11_toysHeldBy_16 : decode cX11_toysHeldBy 16 = .ok (.getfield 35, 3) := by decide +kernel
theorem dX11_toysHeldBy_19 : decode cX11_toysHeldBy 19 = .ok (.iload_n 3, 1) := by decide +kernel
theorem dX11_toysHeldBy_20 : decode cX11_toysHeldBy 20 = .ok (.invokevirtual 324, 3) := by decide +kernel
theorem dX11_toysHeldBy_23 : decode cX11_toysHeldBy 23 = .ok (.checkcast 133, 3) := by decide +kernel
theorem dX11_toysHeldBy_26 : decode cX11_toysHeldBy 26 = .ok (.getfield 271, 3) := by decide +kernel
theorem dX11_toysHeldBy_29 : decode cX11_toysHeldBy 29 = .ok (.aload_n 1, 1) := by decide +kernel
theorem dX11_toysHeldBy_30 : decode cX11_toysHeldBy 30 = .ok (.getfield 144, 3) := by decide +kernel
theorem dX11_toysHeldBy_33 : decode cX11_toysHeldBy 33 = .ok (.if_icmp .ne 6, 3) := by decide +kernel
theorem dX11_toysHeldBy_36 : decode cX11_toysHeldBy 36 = .ok (.iinc 2 1, 3) := by decide +kernel
theorem dX11_toysHeldBy_39 : decode cX11_toysHeldBy 39 = .ok (.iinc 3 1, 3) := by decide +kernel
theorem dX11_toysHeldBy_42 : decode cX11_toysHeldBy 42 = .ok (.goto (-38), 3) := by decide +kernel
theorem dX11_toysHeldBy_45 : decode cX11_toysHeldBy 45 = .ok (.iload_n 2, 1) := by decide +kernel
theorem dX11_toysHeldBy_46 : decode cX11_toysHeldBy 46 = .ok (.ireturn, 1) := by decide +kernel
theorem dX11_isRecalled_0 : decode cX11_isRecalled 0 = .ok (.iconst 0, 1) := by decide +kernel
theorem dX11_isRecalled_1 : decode cX11_isRecalled 1 = .ok (.istore_n 2, 1) := by decide +kernel
theorem dX11_isRecalled_2 : decode cX11_isRecalled 2 = .ok (.iload_n 2, 1) := by decide +kernel
theorem dX11_isRecalled_3 : decode cX11_isRecalled 3 = .ok (.aload_n 0, 1) := by decide +kernel
theorem dX11_isRecalled_4 : decode cX11_isRecalled 4 = .ok (.getfield 41, 3) := by decide +kernel
theorem dX11_isRecalled_7 : decode cX11_isRecalled 7 = .ok (.invokevirtual 103, 3) := by decide +kernel
theorem dX11_isRecalled_10 : decode cX11_isRecalled 10 = .ok (.if_icmp .ge 29, 3) := by decide +kernel
theorem dX11_isRecalled_13 : decode cX11_isRecalled 13 = .ok (.aload_n 0, 1) := by decide +kernel
theorem dX11_isRecalled_14 : decode cX11_isRecalled 14 = .ok (.getfield 41, 3) := by decide +kernel
theorem dX11_isRecalled_17 : decode cX11_isRecalled 17 = .ok (.iload_n 2, 1) := by decide +kernel
theorem dX11_isRecalled_18 : decode cX11_isRecalled 18 = .ok (.invokevirtual 324, 3) := by decide +kernel
theorem dX11_isRecalled_21 : decode cX11_isRecalled 21 = .ok (.checkcast 416, 3) := by decide +kernel
theorem dX11_isRecalled_24 : decode cX11_isRecalled 24 = .ok (.aload_n 1, 1) := by decide +kernel
theorem dX11_isRecalled_25 : decode cX11_isRecalled 25 = .ok (.invokevirtual 455, 3) := by decide +kernel
theorem dX11_isRecalled_28 : decode cX11_isRecalled 28 = .ok (.ifCond .eq 5, 3) := by decide +kernel
theorem dX11_isRecalled_31 : decode cX11_isRecalled 31 = .ok (.iconst 1, 1) := by decide +kernel
theorem dX11_isRecalled_32 : decode cX11_isRecalled 32 = .ok (.ireturn, 1) := by decide +kernel
theorem dX11_isRecalled_33 : decode cX11_isRecalled 33 = .ok (.iinc 2 1, 3) := by decide +kernel
theorem dX11_isRecalled_36 : decode cX11_isRecalled 36 = .ok (.goto (-34), 3) := by decide +kernel
theorem dX11_isRecalled_39 : decode cX11_isRecalled 39 = .ok (.iconst 0, 1) := by decide +kernel
theorem dX11_isRecalled_40 : decode cX11_isRecalled 40 = .ok (.ireturn, 1) := by decide +kernel
theorem dX11_usableToys_0 : decode cX11_usableToys 0 = .ok (.iconst 0, 1) := by decide +kernel
theorem dX11_usableToys_1 : decode cX11_usableToys 1 = .ok (.istore_n 2, 1) := by decide +kernel
theorem dX11_usableToys_2 : decode cX11_usableToys 2 = .ok (.iconst 0, 1) := by decide +kernel
theorem dX11_usableToys_3 : decode cX11_usableToys 3 = .ok (.istore_n 3, 1) := by decide +kernel
theorem dX11_usableToys_4 : decode cX11_usableToys 4 = .ok (.iload_n 3, 1) := by decide +kernel
theorem dX11_usableToys_5 : decode cX11_usableToys 5 = .ok (.aload_n 0, 1) := by decide +kernel
theorem dX11_usableToys_6 : decode cX11_usableToys 6 = .ok (.getfield 35, 3) := by decide +kernel
theorem dX11_usableToys_9 : decode cX11_usableToys 9 = .ok (.invokevirtual 103, 3) := by decide +kernel
theorem dX11_usableToys_12 : decode cX11_usableToys 12 = .ok (.if_icmp .ge 60, 3) := by decide +kernel
theorem dX11_usableToys_15 : decode cX11_usableToys 15 = .ok (.aload_n 0, 1) := by decide +kernel
theorem dX11_usableToys_16 : decode cX11_usableToys 16 = .ok (.getfield 35, 3) := by decide +kernel
theorem dX11_usableToys_19 : decode cX11_usableToys 19 = .ok (.iload_n 3, 1) := by decide +kernel
theorem dX11_usableToys_20 : decode cX11_usableToys 20 = .ok (.invokevirtual 324, 3) := by decide +kernel
theorem dX11_usableToys_23 : decode cX11_usableToys 23 = .ok (.checkcast 133, 3) := by decide +kernel
theorem dX11_usableToys_26 : decode cX11_usableToys 26 = .ok (.astore 4, 2) := by decide +kernel
theorem dX11_usableToys_28 : decode cX11_usableToys 28 = .ok (.aload 4, 2) := by decide +kernel
theorem dX11_usableToys_30 : decode cX11_usableToys 30 = .ok (.getfield 203, 3) := by decide +kernel
theorem dX11_usableToys_33 : decode cX11_usableToys 33 = .ok (.aload_n 1, 1) := by decide +kernel
theorem dX11_usableToys_34 : decode cX11_usableToys 34 = .ok (.if_acmp .ne 32, 3) := by decide +kernel
theorem dX11_usableToys_37 : decode cX11_usableToys 37 = .ok (.aload 4, 2) := by decide +kernel
theorem dX11_usableToys_39 : decode cX11_usableToys 39 = .ok (.getfield 264, 3) := by decide +kernel
theorem dX11_usableToys_42 : decode cX11_usableToys 42 = .ok (.ifCond .eq 12, 3) := by decide +kernel
theorem dX11_usableToys_45 : decode cX11_usableToys 45 = .ok (.aload 4, 2) := by decide +kernel
theorem dX11_usableToys_47 : decode cX11_usableToys 47 = .ok (.getfield 264, 3) := by decide +kernel
theorem dX11_usableToys_50 : decode cX11_usableToys 50 = .ok (.iconst 1, 1) := by decide +kernel
theorem dX11_usableToys_51 : decode cX11_usableToys 51 = .ok (.if_icmp .ne 15, 3) := by decide +kernel
theorem dX11_usableToys_54 : decode cX11_usableToys 54 = .ok (.aload_n 0, 1) := by decide +kernel
theorem dX11_usableToys_55 : decode cX11_usableToys 55 = .ok (.aload 4, 2) := by decide +kernel
theorem dX11_usableToys_57 : decode cX11_usableToys 57 = .ok (.invokevirtual 280, 3) := by decide +kernel
theorem dX11_usableToys_60 : decode cX11_usableToys 60 = .ok (.ifCond .ne 6, 3) := by decide +kernel
theorem dX11_usableToys_63 : decode cX11_usableToys 63 = .ok (.iinc 2 1, 3) := by decide +kernel
theorem dX11_usableToys_66 : decode cX11_usableToys 66 = .ok (.iinc 3 1, 3) := by decide +kernel
theorem dX11_usableToys_69 : decode cX11_usableToys 69 = .ok (.goto (-65), 3) := by decide +kernel
theorem dX11_usableToys_72 : decode cX11_usableToys 72 = .ok (.iload_n 2, 1) := by decide +kernel
theorem dX11_usableToys_73 : decode cX11_usableToys 73 = .ok (.ireturn, 1) := by decide +kernel
theorem dX11_toysOfRecall_0 : decode cX11_toysOfRecall 0 = .ok (.iconst 0, 1) := by decide +kernel
theorem dX11_toysOfRecall_1 : decode cX11_toysOfRecall 1 = .ok (.istore_n 2, 1) := by decide +kernel
theorem dX11_toysOfRecall_2 : decode cX11_toysOfRecall 2 = .ok (.iconst 0, 1) := by decide +kernel
theorem dX11_toysOfRecall_3 : decode cX11_toysOfRecall 3 = .ok (.istore_n 3, 1) := by decide +kernel
theorem dX11_toysOfRecall_4 : decode cX11_toysOfRecall 4 = .ok (.iload_n 3, 1) := by decide +kernel
theorem dX11_toysOfRecall_5 : decode cX11_toysOfRecall 5 = .ok (.aload_n 0, 1) := by decide +kernel
theorem dX11_toysOfRecall_6 : decode cX11_toysOfRecall 6 = .ok (.getfield 35, 3) := by decide +kernel
theorem dX11_toysOfRecall_9 : decode cX11_toysOfRecall 9 = .ok (.invokevirtual 103, 3) := by decide +kernel
theorem dX11_toysOfRecall_12 : decode cX11_toysOfRecall 12 = .ok (.if_icmp .ge 33, 3) := by decide +kernel
theorem dX11_toysOfRecall_15 : decode cX11_toysOfRecall 15 = .ok (.aload_n 1, 1) := by decide +kernel
theorem dX11_toysOfRecall_16 : decode cX11_toysOfRecall 16 = .ok (.aload_n 0, 1) := by decide +kernel
theorem dX11_toysOfRecall_17 : decode cX11_toysOfRecall 17 = .ok (.getfield 35, 3) := by decide +kernel
theorem dX11_toysOfRecall_20 : decode cX11_toysOfRecall 20 = .ok (.iload_n 3, 1) := by decide +kernel
theorem dX11_toysOfRecall_21 : decode cX11_toysOfRecall 21 = .ok (.invokevirtual 324, 3) := by decide +kernel
theorem dX11_toysOfRecall_24 : decode cX11_toysOfRecall 24 = .ok (.checkcast 133, 3) := by decide +kernel
theorem dX11_toysOfRecall_27 : decode cX11_toysOfRecall 27 = .ok (.invokevirtual 455, 3) := by decide +kernel
theorem dX11_toysOfRecall_30 : decode cX11_toysOfRecall 30 = .ok (.ifCond .eq 9, 3) := by decide +kernel
theorem dX11_toysOfRecall_33 : decode cX11_toysOfRecall 33 = .ok (.iload_n 2, 1) := by decide +kernel
theorem dX11_toysOfRecall_34 : decode cX11_toysOfRecall 34 = .ok (.iconst 1, 1) := by decide +kernel
theorem dX11_toysOfRecall_35 : decode cX11_toysOfRecall 35 = .ok (.iload_n 3, 1) := by decide +kernel
theorem dX11_toysOfRecall_36 : decode cX11_toysOfRecall 36 = .ok (.ishl, 1) := by decide +kernel
theorem dX11_toysOfRecall_37 : decode cX11_toysOfRecall 37 = .ok (.ior, 1) := by decide +kernel
theorem dX11_toysOfRecall_38 : decode cX11_toysOfRecall 38 = .ok (.istore_n 2, 1) := by decide +kernel
theorem dX11_toysOfRecall_39 : decode cX11_toysOfRecall 39 = .ok (.iinc 3 1, 3) := by decide +kernel
theorem dX11_toysOfRecall_42 : decode cX11_toysOfRecall 42 = .ok (.goto (-38), 3) := by decide +kernel
theorem dX11_toysOfRecall_45 : decode cX11_toysOfRecall 45 = .ok (.iload_n 2, 1) := by decide +kernel
theorem dX11_toysOfRecall_46 : decode cX11_toysOfRecall 46 = .ok (.ireturn, 1) := by decide +kernel
theorem dX11_holdersNow_0 : decode cX11_holdersNow 0 = .ok (.iconst 0, 1) := by decide +kernel
theorem dX11_holdersNow_1 : decode cX11_holdersNow 1 = .ok (.istore_n 2, 1) := by decide +kernel
theorem dX11_holdersNow_2 : decode cX11_holdersNow 2 = .ok (.iconst 0, 1) := by decide +kernel
theorem dX11_holdersNow_3 : decode cX11_holdersNow 3 = .ok (.istore_n 3, 1) := by decide +kernel
theorem dX11_holdersNow_4 : decode cX11_holdersNow 4 = .ok (.iload_n 3, 1) := by decide +kernel
theorem dX11_holdersNow_5 : decode cX11_holdersNow 5 = .ok (.aload_n 0, 1) := by decide +kernel
theorem dX11_holdersNow_6 : decode cX11_holdersNow 6 = .ok (.getfield 35, 3) := by decide +kernel
theorem dX11_holdersNow_9 : decode cX11_holdersNow 9 = .ok (.invokevirtual 103, 3) := by decide +kernel
theorem dX11_holdersNow_12 : decode cX11_holdersNow 12 = .ok (.if_icmp .ge 50, 3) := by decide +kernel
theorem dX11_holdersNow_15 : decode cX11_holdersNow 15 = .ok (.aload_n 0, 1) := by decide +kernel
theorem dX11_holdersNow_16 : decode cX11_holdersNow 16 = .ok (.getfield 35, 3) := by decide +kernel
theorem dX11_holdersNow_19 : decode cX11_holdersNow 19 = .ok (.iload_n 3, 1) := by decide +kernel
theorem dX11_holdersNow_20 : decode cX11_holdersNow 20 = .ok (.invokevirtual 324, 3) := by decide +kernel
theorem dX11_holdersNow_23 : decode cX11_holdersNow 23 = .ok (.checkcast 133, 3) := by decide +kernel
theorem dX11_holdersNow_26 : decode cX11_holdersNow 26 = .ok (.astore 4, 2) := by decide +kernel
theorem dX11_holdersNow_28 : decode cX11_holdersNow 28 = .ok (.aload 4, 2) := by decide +kernel
theorem dX11_holdersNow_30 : decode cX11_holdersNow 30 = .ok (.getfield 264, 3) := by decide +kernel
theorem dX11_holdersNow_33 : decode cX11_holdersNow 33 = .ok (.iconst 1, 1) := by decide +kernel
theorem dX11_holdersNow_34 : decode cX11_holdersNow 34 = .ok (.if_icmp .ne 22, 3) := by decide +kernel
theorem dX11_holdersNow_37 : decode cX11_holdersNow 37 = .ok (.aload_n 1, 1) := by decide +kernel
theorem dX11_holdersNow_38 : decode cX11_holdersNow 38 = .ok (.aload 4, 2) := by decide +kernel
theorem dX11_holdersNow_40 : decode cX11_holdersNow 40 = .ok (.invokevirtual 455, 3) := by decide +kernel
theorem dX11_holdersNow_43 : decode cX11_holdersNow 43 = .ok (.ifCond .eq 13, 3) := by decide +kernel
theorem dX11_holdersNow_46 : decode cX11_holdersNow 46 = .ok (.iload_n 2, 1) := by decide +kernel
theorem dX11_holdersNow_47 : decode cX11_holdersNow 47 = .ok (.iconst 1, 1) := by decide +kernel
theorem dX11_holdersNow_48 : decode cX11_holdersNow 48 = .ok (.aload 4, 2) := by decide +kernel
theorem dX11_holdersNow_50 : decode cX11_holdersNow 50 = .ok (.getfield 271, 3) := by decide +kernel
theorem dX11_holdersNow_53 : decode cX11_holdersNow 53 = .ok (.ishl, 1) := by decide +kernel
theorem dX11_holdersNow_54 : decode cX11_holdersNow 54 = .ok (.ior, 1) := by decide +kernel
theorem dX11_holdersNow_55 : decode cX11_holdersNow 55 = .ok (.istore_n 2, 1) := by decide +kernel
theorem dX11_holdersNow_56 : decode cX11_holdersNow 56 = .ok (.iinc 3 1, 3) := by decide +kernel
theorem dX11_holdersNow_59 : decode cX11_holdersNow 59 = .ok (.goto (-55), 3) := by decide +kernel
theorem dX11_holdersNow_62 : decode cX11_holdersNow 62 = .ok (.iload_n 2, 1) := by decide +kernel
theorem dX11_holdersNow_63 : decode cX11_holdersNow 63 = .ok (.ireturn, 1) := by decide +kernel
theorem dX11_addToTape_0 : decode cX11_addToTape 0 = .ok (.bipush 24, 2) := by decide +kernel
theorem dX11_addToTape_2 : decode cX11_addToTape 2 = .ok (.istore_n 2, 1) := by decide +kernel
theorem dX11_addToTape_3 : decode cX11_addToTape 3 = .ok (.iload_n 2, 1) := by decide +kernel
theorem dX11_addToTape_4 : decode cX11_addToTape 4 = .ok (.ifCond .lt 45, 3) := by decide +kernel
theorem dX11_addToTape_7 : decode cX11_addToTape 7 = .ok (.aload_n 0, 1) := by decide +kernel
theorem dX11_addToTape_8 : decode cX11_addToTape 8 = .ok (.getfield 165, 3) := by decide +kernel
theorem dX11_addToTape_11 : decode cX11_addToTape 11 = .ok (.sipush 220, 3) := by decide +kernel
theorem dX11_addToTape_14 : decode cX11_addToTape 14 = .ok (.if_icmp .ge 35, 3) := by decide +kernel
theorem dX11_addToTape_17 : decode cX11_addToTape 17 = .ok (.aload_n 0, 1) := by decide +kernel
theorem dX11_addToTape_18 : decode cX11_addToTape 18 = .ok (.getfield 9, 3) := by decide +kernel
theorem dX11_addToTape_21 : decode cX11_addToTape 21 = .ok (.aload_n 0, 1) := by decide +kernel
theorem dX11_addToTape_22 : decode cX11_addToTape 22 = .ok (.getfield 165, 3) := by decide +kernel
theorem dX11_addToTape_25 : decode cX11_addToTape 25 = .ok (.iload_n 1, 1) := by decide +kernel
theorem dX11_addToTape_26 : decode cX11_addToTape 26 = .ok (.iload_n 2, 1) := by decide +kernel
theorem dX11_addToTape_27 : decode cX11_addToTape 27 = .ok (.iushr, 1) := by decide +kernel
theorem dX11_addToTape_28 : decode cX11_addToTape 28 = .ok (.sipush 255, 3) := by decide +kernel
theorem dX11_addToTape_31 : decode cX11_addToTape 31 = .ok (.iand, 1) := by decide +kernel
theorem dX11_addToTape_32 : decode cX11_addToTape 32 = .ok (.iastore, 1) := by decide +kernel
theorem dX11_addToTape_33 : decode cX11_addToTape 33 = .ok (.aload_n 0, 1) := by decide +kernel
theorem dX11_addToTape_34 : decode cX11_addToTape 34 = .ok (.dup, 1) := by decide +kernel
theorem dX11_addToTape_35 : decode cX11_addToTape 35 = .ok (.getfield 165, 3) := by decide +kernel
theorem dX11_addToTape_38 : decode cX11_addToTape 38 = .ok (.iconst 1, 1) := by decide +kernel
theorem dX11_addToTape_39 : decode cX11_addToTape 39 = .ok (.iadd, 1) := by decide +kernel
theorem dX11_addToTape_40 : decode cX11_addToTape 40 = .ok (.putfield 165, 3) := by decide +kernel
theorem dX11_addToTape_43 : decode cX11_addToTape 43 = .ok (.iinc 2 (-8), 3) := by decide +kernel
theorem dX11_addToTape_46 : decode cX11_addToTape 46 = .ok (.goto (-43), 3) := by decide +kernel
theorem dX11_addToTape_49 : decode cX11_addToTape 49 = .ok (.return_, 1) := by decide +kernel
theorem dX11_tapeNumber_0 : decode cX11_tapeNumber 0 = .ok (.iconst 0, 1) := by decide +kernel
theorem dX11_tapeNumber_1 : decode cX11_tapeNumber 1 = .ok (.istore_n 2, 1) := by decide +kernel
theorem dX11_tapeNumber_2 : decode cX11_tapeNumber 2 = .ok (.iconst 4, 1) := by decide +kernel
theorem dX11_tapeNumber_3 : decode cX11_tapeNumber 3 = .ok (.iload_n 1, 1) := by decide +kernel
theorem dX11_tapeNumber_4 : decode cX11_tapeNumber 4 = .ok (.imul, 1) := by decide +kernel
theorem dX11_tapeNumber_5 : decode cX11_tapeNumber 5 = .ok (.istore_n 3, 1) := by decide +kernel
theorem dX11_tapeNumber_6 : decode cX11_tapeNumber 6 = .ok (.iload_n 3, 1) := by decide +kernel
theorem dX11_tapeNumber_7 : decode cX11_tapeNumber 7 = .ok (.iconst 4, 1) := by decide +kernel
theorem dX11_tapeNumber_8 : decode cX11_tapeNumber 8 = .ok (.iload_n 1, 1) := by decide +kernel
theorem dX11_tapeNumber_9 : decode cX11_tapeNumber 9 = .ok (.imul, 1) := by decide +kernel
theorem dX11_tapeNumber_10 : decode cX11_tapeNumber 10 = .ok (.iconst 4, 1) := by decide +kernel
theorem dX11_tapeNumber_11 : decode cX11_tapeNumber 11 = .ok (.iadd, 1) := by decide +kernel
theorem dX11_tapeNumber_12 : decode cX11_tapeNumber 12 = .ok (.if_icmp .ge 36, 3) := by decide +kernel
theorem dX11_tapeNumber_15 : decode cX11_tapeNumber 15 = .ok (.iload_n 2, 1) := by decide +kernel
theorem dX11_tapeNumber_16 : decode cX11_tapeNumber 16 = .ok (.bipush 8, 2) := by decide +kernel
theorem dX11_tapeNumber_18 : decode cX11_tapeNumber 18 = .ok (.ishl, 1) := by decide +kernel
theorem dX11_tapeNumber_19 : decode cX11_tapeNumber 19 = .ok (.iload_n 3, 1) := by decide +kernel
theorem dX11_tapeNumber_20 : decode cX11_tapeNumber 20 = .ok (.iconst 0, 1) := by decide +kernel
theorem dX11_tapeNumber_21 : decode cX11_tapeNumber 21 = .ok (.sipush 219, 3) := by decide +kernel
theorem dX11_tapeNumber_24 : decode cX11_tapeNumber 24 = .ok (.invokestatic 99, 3) := by decide +kernel
theorem dX11_tapeNumber_27 : decode cX11_tapeNumber 27 = .ok (.ifCond .eq 12, 3) := by decide +kernel
theorem dX11_tapeNumber_30 : decode cX11_tapeNumber 30 = .ok (.aload_n 0, 1) := by decide +kernel
theorem dX11_tapeNumber_31 : decode cX11_tapeNumber 31 = .ok (.getfield 9, 3) := by decide +kernel
theorem dX11_tapeNumber_34 : decode cX11_tapeNumber 34 = .ok (.iload_n 3, 1) := by decide +kernel
theorem dX11_tapeNumber_35 : decode cX11_tapeNumber 35 = .ok (.iaload, 1) := by decide +kernel
theorem dX11_tapeNumber_36 : decode cX11_tapeNumber 36 = .ok (.goto 4, 3) := by decide +kernel
theorem dX11_tapeNumber_39 : decode cX11_tapeNumber 39 = .ok (.iconst 0, 1) := by decide +kernel
theorem dX11_tapeNumber_40 : decode cX11_tapeNumber 40 = .ok (.ior, 1) := by decide +kernel
theorem dX11_tapeNumber_41 : decode cX11_tapeNumber 41 = .ok (.istore_n 2, 1) := by decide +kernel
theorem dX11_tapeNumber_42 : decode cX11_tapeNumber 42 = .ok (.iinc 3 1, 3) := by decide +kernel
theorem dX11_tapeNumber_45 : decode cX11_tapeNumber 45 = .ok (.goto (-39), 3) := by decide +kernel
theorem dX11_tapeNumber_48 : decode cX11_tapeNumber 48 = .ok (.iload_n 2, 1) := by decide +kernel
theorem dX11_tapeNumber_49 : decode cX11_tapeNumber 49 = .ok (.ireturn, 1) := by decide +kernel
theorem dX11_firstWrongNumber_0 : decode cX11_firstWrongNumber 0 = .ok (.iconst 0, 1) := by decide +kernel
theorem dX11_firstWrongNumber_1 : decode cX11_firstWrongNumber 1 = .ok (.istore_n 3, 1) := by decide +kernel
theorem dX11_firstWrongNumber_2 : decode cX11_firstWrongNumber 2 = .ok (.iconst 0, 1) := by decide +kernel
theorem dX11_firstWrongNumber_3 : decode cX11_firstWrongNumber 3 = .ok (.istore 4, 2) := by decide +kernel
theorem dX11_firstWrongNumber_5 : decode cX11_firstWrongNumber 5 = .ok (.iload 4, 2) := by decide +kernel
theorem dX11_firstWrongNumber_7 : decode cX11_firstWrongNumber 7 = .ok (.bipush 6, 2) := by decide +kernel
theorem dX11_firstWrongNumber_9 : decode cX11_firstWrongNumber 9 = .ok (.if_icmp .ge 63, 3) := by decide +kernel
theorem dX11_firstWrongNumber_12 : decode cX11_firstWrongNumber 12 = .ok (.aload_n 1, 1) := by decide +kernel
theorem dX11_firstWrongNumber_13 : decode cX11_firstWrongNumber 13 = .ok (.getfield 203, 3) := by decide +kernel
theorem dX11_firstWrongNumber_16 : decode cX11_firstWrongNumber 16 = .ok (.getfield 127, 3) := by decide +kernel
theorem dX11_firstWrongNumber_19 : decode cX11_firstWrongNumber 19 = .ok (.iload 4, 2) := by decide +kernel
theorem dX11_firstWrongNumber_21 : decode cX11_firstWrongNumber 21 = .ok (.iaload, 1) := by decide +kernel
theorem dX11_firstWrongNumber_22 : decode cX11_firstWrongNumber 22 = .ok (.ifCond .le 44, 3) := by decide +kernel
theorem dX11_firstWrongNumber_25 : decode cX11_firstWrongNumber 25 = .ok (.iload_n 3, 1) := by decide +kernel
theorem dX11_firstWrongNumber_26 : decode cX11_firstWrongNumber 26 = .ok (.iload_n 2, 1) := by decide +kernel
theorem dX11_firstWrongNumber_27 : decode cX11_firstWrongNumber 27 = .ok (.if_icmp .ge 13, 3) := by decide +kernel
theorem dX11_firstWrongNumber_30 : decode cX11_firstWrongNumber 30 = .ok (.aload_n 0, 1) := by decide +kernel
theorem dX11_firstWrongNumber_31 : decode cX11_firstWrongNumber 31 = .ok (.iload_n 3, 1) := by decide +kernel
theorem dX11_firstWrongNumber_32 : decode cX11_firstWrongNumber 32 = .ok (.invokevirtual 458, 3) := by decide +kernel
theorem dX11_firstWrongNumber_35 : decode cX11_firstWrongNumber 35 = .ok (.iload 4, 2) := by decide +kernel
theorem dX11_firstWrongNumber_37 : decode cX11_firstWrongNumber 37 = .ok (.if_icmp .eq 5, 3) := by decide +kernel
theorem dX11_firstWrongNumber_40 : decode cX11_firstWrongNumber 40 = .ok (.iload_n 3, 1) := by decide +kernel
theorem dX11_firstWrongNumber_41 : decode cX11_firstWrongNumber 41 = .ok (.ireturn, 1) := by decide +kernel
theorem dX11_firstWrongNumber_42 : decode cX11_firstWrongNumber 42 = .ok (.aload_n 0, 1) := by decide +kernel
theorem dX11_firstWrongNumber_43 : decode cX11_firstWrongNumber 43 = .ok (.iload_n 3, 1) := by decide +kernel
theorem dX11_firstWrongNumber_44 : decode cX11_firstWrongNumber 44 = .ok (.iconst 1, 1) := by decide +kernel
theorem dX11_firstWrongNumber_45 : decode cX11_firstWrongNumber 45 = .ok (.iadd, 1) := by decide +kernel
theorem dX11_firstWrongNumber_46 : decode cX11_firstWrongNumber 46 = .ok (.invokevirtual 458, 3) := by decide +kernel
theorem dX11_firstWrongNumber_49 : decode cX11_firstWrongNumber 49 = .ok (.aload_n 1, 1) := by decide +kernel
theorem dX11_firstWrongNumber_50 : decode cX11_firstWrongNumber 50 = .ok (.getfield 287, 3) := by decide +kernel
theorem dX11_firstWrongNumber_53 : decode cX11_firstWrongNumber 53 = .ok (.iload 4, 2) := by decide +kernel
theorem dX11_firstWrongNumber_55 : decode cX11_firstWrongNumber 55 = .ok (.iaload, 1) := by decide +kernel
theorem dX11_firstWrongNumber_56 : decode cX11_firstWrongNumber 56 = .ok (.if_icmp .eq 7, 3) := by decide +kernel
theorem dX11_firstWrongNumber_59 : decode cX11_firstWrongNumber 59 = .ok (.iload_n 3, 1) := by decide +kernel
theorem dX11_firstWrongNumber_60 : decode cX11_firstWrongNumber 60 = .ok (.iconst 1, 1) := by decide +kernel
theorem dX11_firstWrongNumber_61 : decode cX11_firstWrongNumber 61 = .ok (.iadd, 1) := by decide +kernel
theorem dX11_firstWrongNumber_62 : decode cX11_firstWrongNumber 62 = .ok (.ireturn, 1) := by decide +kernel
theorem dX11_firstWrongNumber_63 : decode cX11_firstWrongNumber 63 = .ok (.iinc 3 2, 3) := by decide +kernel
theorem dX11_firstWrongNumber_66 : decode cX11_firstWrongNumber 66 = .ok (.iinc 4 1, 3) := by decide +kernel
theorem dX11_firstWrongNumber_69 : decode cX11_firstWrongNumber 69 = .ok (.goto (-64), 3) := by decide +kernel
theorem dX11_firstWrongNumber_72 : decode cX11_firstWrongNumber 72 = .ok (.iload_n 3, 1) := by decide +kernel
theorem dX11_firstWrongNumber_73 : decode cX11_firstWrongNumber 73 = .ok (.iload_n 2, 1) := by decide +kernel
theorem dX11_firstWrongNumber_74 : decode cX11_firstWrongNumber 74 = .ok (.if_icmp .ge 7, 3) := by decide +kernel
theorem dX11_firstWrongNumber_77 : decode cX11_firstWrongNumber 77 = .ok (.iload_n 3, 1) := by decide +kernel
theorem dX11_firstWrongNumber_78 : decode cX11_firstWrongNumber 78 = .ok (.goto 4, 3) := by decide +kernel
theorem dX11_firstWrongNumber_81 : decode cX11_firstWrongNumber 81 = .ok (.iconst (-1), 1) := by decide +kernel
theorem dX11_firstWrongNumber_82 : decode cX11_firstWrongNumber 82 = .ok (.ireturn, 1) := by decide +kernel
theorem dX11_writeLetters_0 : decode cX11_writeLetters 0 = .ok (.aload_n 0, 1) := by decide +kernel
theorem dX11_writeLetters_1 : decode cX11_writeLetters 1 = .ok (.getfield 56, 3) := by decide +kernel
theorem dX11_writeLetters_4 : decode cX11_writeLetters 4 = .ok (.bipush 107, 2) := by decide +kernel
theorem dX11_writeLetters_6 : decode cX11_writeLetters 6 = .ok (.aload_n 1, 1) := by decide +kernel
theorem dX11_writeLetters_7 : decode cX11_writeLetters 7 = .ok (.getfield 116, 3) := by decide +kernel
theorem dX11_writeLetters_10 : decode cX11_writeLetters 10 = .ok (.invokevirtual 461, 3) := by decide +kernel
theorem dX11_writeLetters_13 : decode cX11_writeLetters 13 = .ok (.aload_n 0, 1) := by decide +kernel
theorem dX11_writeLetters_14 : decode cX11_writeLetters 14 = .ok (.getfield 56, 3) := by decide +kernel
theorem dX11_writeLetters_17 : decode cX11_writeLetters 17 = .ok (.bipush 97, 2) := by decide +kernel
theorem dX11_writeLetters_19 : decode cX11_writeLetters 19 = .ok (.aload_n 1, 1) := by decide +kernel
theorem dX11_writeLetters_20 : decode cX11_writeLetters 20 = .ok (.getfield 465, 3) := by decide +kernel
theorem dX11_writeLetters_23 : decode cX11_writeLetters 23 = .ok (.invokevirtual 461, 3) := by decide +kernel
theorem dX11_writeLetters_26 : decode cX11_writeLetters 26 = .ok (.aload_n 0, 1) := by decide +kernel
theorem dX11_writeLetters_27 : decode cX11_writeLetters 27 = .ok (.getfield 56, 3) := by decide +kernel
theorem dX11_writeLetters_30 : decode cX11_writeLetters 30 = .ok (.bipush 112, 2) := by decide +kernel
theorem dX11_writeLetters_32 : decode cX11_writeLetters 32 = .ok (.aload_n 1, 1) := by decide +kernel
theorem dX11_writeLetters_33 : decode cX11_writeLetters 33 = .ok (.getfield 362, 3) := by decide +kernel
theorem dX11_writeLetters_36 : decode cX11_writeLetters 36 = .ok (.invokevirtual 461, 3) := by decide +kernel
theorem dX11_writeLetters_39 : decode cX11_writeLetters 39 = .ok (.aload_n 0, 1) := by decide +kernel
theorem dX11_writeLetters_40 : decode cX11_writeLetters 40 = .ok (.getfield 56, 3) := by decide +kernel
theorem dX11_writeLetters_43 : decode cX11_writeLetters 43 = .ok (.bipush 122, 2) := by decide +kernel
theorem dX11_writeLetters_45 : decode cX11_writeLetters 45 = .ok (.aload_n 1, 1) := by decide +kernel
theorem dX11_writeLetters_46 : decode cX11_writeLetters 46 = .ok (.getfield 468, 3) := by decide +kernel
theorem dX11_writeLetters_49 : decode cX11_writeLetters 49 = .ok (.invokevirtual 461, 3) := by decide +kernel
theorem dX11_writeLetters_52 : decode cX11_writeLetters 52 = .ok (.aload_n 0, 1) := by decide +kernel
theorem dX11_writeLetters_53 : decode cX11_writeLetters 53 = .ok (.getfield 56, 3) := by decide +kernel
theorem dX11_writeLetters_56 : decode cX11_writeLetters 56 = .ok (.bipush 119, 2) := by decide +kernel
theorem dX11_writeLetters_58 : decode cX11_writeLetters 58 = .ok (.aload_n 2, 1) := by decide +kernel
theorem dX11_writeLetters_59 : decode cX11_writeLetters 59 = .ok (.ifnonnull 7, 3) := by decide +kernel
theorem dX11_writeLetters_62 : decode cX11_writeLetters 62 = .ok (.iconst 0, 1) := by decide +kernel
theorem dX11_writeLetters_63 : decode cX11_writeLetters 63 = .ok (.goto 7, 3) := by decide +kernel
theorem dX11_writeLetters_66 : decode cX11_writeLetters 66 = .ok (.aload_n 2, 1) := by decide +kernel
theorem dX11_writeLetters_67 : decode cX11_writeLetters 67 = .ok (.getfield 274, 3) := by decide +kernel
theorem dX11_writeLetters_70 : decode cX11_writeLetters 70 = .ok (.invokevirtual 461, 3) := by decide +kernel
theorem dX11_writeLetters_73 : decode cX11_writeLetters 73 = .ok (.aload_n 0, 1) := by decide +kernel
theorem dX11_writeLetters_74 : decode cX11_writeLetters 74 = .ok (.getfield 56, 3) := by decide +kernel
theorem dX11_writeLetters_77 : decode cX11_writeLetters 77 = .ok (.bipush 109, 2) := by decide +kernel
theorem dX11_writeLetters_79 : decode cX11_writeLetters 79 = .ok (.aload_n 2, 1) := by decide +kernel
theorem dX11_writeLetters_80 : decode cX11_writeLetters 80 = .ok (.ifnonnull 7, 3) := by decide +kernel
theorem dX11_writeLetters_83 : decode cX11_writeLetters 83 = .ok (.iconst 0, 1) := by decide +kernel
theorem dX11_writeLetters_84 : decode cX11_writeLetters 84 = .ok (.goto 7, 3) := by decide +kernel
theorem dX11_writeLetters_87 : decode cX11_writeLetters 87 = .ok (.aload_n 2, 1) := by decide +kernel
theorem dX11_writeLetters_88 : decode cX11_writeLetters 88 = .ok (.invokevirtual 265, 3) := by decide +kernel
theorem dX11_writeLetters_91 : decode cX11_writeLetters 91 = .ok (.invokevirtual 461, 3) := by decide +kernel
theorem dX11_writeLetters_94 : decode cX11_writeLetters 94 = .ok (.aload_n 0, 1) := by decide +kernel
theorem dX11_writeLetters_95 : decode cX11_writeLetters 95 = .ok (.getfield 56, 3) := by decide +kernel
theorem dX11_writeLetters_98 : decode cX11_writeLetters 98 = .ok (.bipush 116, 2) := by decide +kernel
theorem dX11_writeLetters_100 : decode cX11_writeLetters 100 = .ok (.aload_n 2, 1) := by decide +kernel
theorem dX11_writeLetters_101 : decode cX11_writeLetters 101 = .ok (.ifnonnull 7, 3) := by decide +kernel
theorem dX11_writeLetters_104 : decode cX11_writeLetters 104 = .ok (.iconst 0, 1) := by decide +kernel
theorem dX11_writeLetters_105 : decode cX11_writeLetters 105 = .ok (.goto 7, 3) := by decide +kernel
theorem dX11_writeLetters_108 : decode cX11_writeLetters 108 = .ok (.aload_n 2, 1) := by decide +kernel
theorem dX11_writeLetters_109 : decode cX11_writeLetters 109 = .ok (.getfield 138, 3) := by decide +kernel
theorem dX11_writeLetters_112 : decode cX11_writeLetters 112 = .ok (.invokevirtual 461, 3) := by decide +kernel
theorem dX11_writeLetters_115 : decode cX11_writeLetters 115 = .ok (.aload_n 0, 1) := by decide +kernel
theorem dX11_writeLetters_116 : decode cX11_writeLetters 116 = .ok (.getfield 56, 3) := by decide +kernel
theorem dX11_writeLetters_119 : decode cX11_writeLetters 119 = .ok (.bipush 110, 2) := by decide +kernel
theorem dX11_writeLetters_121 : decode cX11_writeLetters 121 = .ok (.aload_n 2, 1) := by decide +kernel
theorem dX11_writeLetters_122 : decode cX11_writeLetters 122 = .ok (.ifnonnull 7, 3) := by decide +kernel
theorem dX11_writeLetters_125 : decode cX11_writeLetters 125 = .ok (.iconst 0, 1) := by decide +kernel
theorem dX11_writeLetters_126 : decode cX11_writeLetters 126 = .ok (.goto 7, 3) := by decide +kernel
theorem dX11_writeLetters_129 : decode cX11_writeLetters 129 = .ok (.aload_n 2, 1) := by decide +kernel
theorem dX11_writeLetters_130 : decode cX11_writeLetters 130 = .ok (.getfield 277, 3) := by decide +kernel
theorem dX11_writeLetters_133 : decode cX11_writeLetters 133 = .ok (.invokevirtual 461, 3) := by decide +kernel
theorem dX11_writeLetters_136 : decode cX11_writeLetters 136 = .ok (.aload_n 0, 1) := by decide +kernel
theorem dX11_writeLetters_137 : decode cX11_writeLetters 137 = .ok (.getfield 56, 3) := by decide +kernel
theorem dX11_writeLetters_140 : decode cX11_writeLetters 140 = .ok (.bipush 121, 2) := by decide +kernel
theorem dX11_writeLetters_142 : decode cX11_writeLetters 142 = .ok (.aload_n 3, 1) := by decide +kernel
theorem dX11_writeLetters_143 : decode cX11_writeLetters 143 = .ok (.getfield 471, 3) := by decide +kernel
theorem dX11_writeLetters_146 : decode cX11_writeLetters 146 = .ok (.invokevirtual 461, 3) := by decide +kernel
theorem dX11_writeLetters_149 : decode cX11_writeLetters 149 = .ok (.aload_n 0, 1) := by decide +kernel
theorem dX11_writeLetters_150 : decode cX11_writeLetters 150 = .ok (.getfield 56, 3) := by decide +kernel
theorem dX11_writeLetters_153 : decode cX11_writeLetters 153 = .ok (.bipush 101, 2) := by decide +kernel
theorem dX11_writeLetters_155 : decode cX11_writeLetters 155 = .ok (.aload_n 3, 1) := by decide +kernel
theorem dX11_writeLetters_156 : decode cX11_writeLetters 156 = .ok (.getfield 474, 3) := by decide +kernel
theorem dX11_writeLetters_159 : decode cX11_writeLetters 159 = .ok (.invokevirtual 461, 3) := by decide +kernel
theorem dX11_writeLetters_162 : decode cX11_writeLetters 162 = .ok (.aload_n 0, 1) := by decide +kernel
theorem dX11_writeLetters_163 : decode cX11_writeLetters 163 = .ok (.getfield 56, 3) := by decide +kernel
theorem dX11_writeLetters_166 : decode cX11_writeLetters 166 = .ok (.bipush 118, 2) := by decide +kernel
theorem dX11_writeLetters_168 : decode cX11_writeLetters 168 = .ok (.aload_n 3, 1) := by decide +kernel
theorem dX11_writeLetters_169 : decode cX11_writeLetters 169 = .ok (.getfield 477, 3) := by decide +kernel
theorem dX11_writeLetters_172 : decode cX11_writeLetters 172 = .ok (.invokevirtual 461, 3) := by decide +kernel
theorem dX11_writeLetters_175 : decode cX11_writeLetters 175 = .ok (.aload_n 0, 1) := by decide +kernel
theorem dX11_writeLetters_176 : decode cX11_writeLetters 176 = .ok (.getfield 56, 3) := by decide +kernel
theorem dX11_writeLetters_179 : decode cX11_writeLetters 179 = .ok (.bipush 104, 2) := by decide +kernel
theorem dX11_writeLetters_181 : decode cX11_writeLetters 181 = .ok (.aload_n 0, 1) := by decide +kernel
theorem dX11_writeLetters_182 : decode cX11_writeLetters 182 = .ok (.aload_n 3, 1) := by decide +kernel
theorem dX11_writeLetters_183 : decode cX11_writeLetters 183 = .ok (.invokevirtual 451, 3) := by decide +kernel
theorem dX11_writeLetters_186 : decode cX11_writeLetters 186 = .ok (.invokevirtual 461, 3) := by decide +kernel
theorem dX11_writeLetters_189 : decode cX11_writeLetters 189 = .ok (.aload_n 0, 1) := by decide +kernel
theorem dX11_writeLetters_190 : decode cX11_writeLetters 190 = .ok (.getfield 56, 3) := by decide +kernel
theorem dX11_writeLetters_193 : decode cX11_writeLetters 193 = .ok (.bipush 100, 2) := by decide +kernel
theorem dX11_writeLetters_195 : decode cX11_writeLetters 195 = .ok (.aload_n 0, 1) := by decide +kernel
theorem dX11_writeLetters_196 : decode cX11_writeLetters 196 = .ok (.getfield 95, 3) := by decide +kernel
theorem dX11_writeLetters_199 : decode cX11_writeLetters 199 = .ok (.invokevirtual 461, 3) := by decide +kernel
theorem dX11_writeLetters_202 : decode cX11_writeLetters 202 = .ok (.aload_n 0, 1) := by decide +kernel
theorem dX11_writeLetters_203 : decode cX11_writeLetters 203 = .ok (.getfield 56, 3) := by decide +kernel
theorem dX11_writeLetters_206 : decode cX11_writeLetters 206 = .ok (.bipush 115, 2) := by decide +kernel
theorem dX11_writeLetters_208 : decode cX11_writeLetters 208 = .ok (.aload_n 0, 1) := by decide +kernel
theorem dX11_writeLetters_209 : decode cX11_writeLetters 209 = .ok (.getfield 95, 3) := by decide +kernel
theorem dX11_writeLetters_212 : decode cX11_writeLetters 212 = .ok (.sipush 365, 3) := by decide +kernel
theorem dX11_writeLetters_215 : decode cX11_writeLetters 215 = .ok (.irem, 1) := by decide +kernel
theorem dX11_writeLetters_216 : decode cX11_writeLetters 216 = .ok (.invokevirtual 461, 3) := by decide +kernel
theorem dX11_writeLetters_219 : decode cX11_writeLetters 219 = .ok (.aload_n 0, 1) := by decide +kernel
theorem dX11_writeLetters_220 : decode cX11_writeLetters 220 = .ok (.getfield 56, 3) := by decide +kernel
theorem dX11_writeLetters_223 : decode cX11_writeLetters 223 = .ok (.bipush 108, 2) := by decide +kernel
theorem dX11_writeLetters_225 : decode cX11_writeLetters 225 = .ok (.iload 4, 2) := by decide +kernel
theorem dX11_writeLetters_227 : decode cX11_writeLetters 227 = .ok (.invokevirtual 461, 3) := by decide +kernel
theorem dX11_writeLetters_230 : decode cX11_writeLetters 230 = .ok (.aload_n 0, 1) := by decide +kernel
theorem dX11_writeLetters_231 : decode cX11_writeLetters 231 = .ok (.getfield 56, 3) := by decide +kernel
theorem dX11_writeLetters_234 : decode cX11_writeLetters 234 = .ok (.bipush 113, 2) := by decide +kernel
theorem dX11_writeLetters_236 : decode cX11_writeLetters 236 = .ok (.aload_n 3, 1) := by decide +kernel
theorem dX11_writeLetters_237 : decode cX11_writeLetters 237 = .ok (.aload_n 1, 1) := by decide +kernel
theorem dX11_writeLetters_238 : decode cX11_writeLetters 238 = .ok (.getfield 116, 3) := by decide +kernel
theorem dX11_writeLetters_241 : decode cX11_writeLetters 241 = .ok (.aload_n 0, 1) := by decide +kernel
theorem dX11_writeLetters_242 : decode cX11_writeLetters 242 = .ok (.getfield 95, 3) := by decide +kernel
theorem dX11_writeLetters_245 : decode cX11_writeLetters 245 = .ok (.invokevirtual 480, 3) := by decide +kernel
theorem dX11_writeLetters_248 : decode cX11_writeLetters 248 = .ok (.invokevirtual 461, 3) := by decide +kernel
theorem dX11_writeLetters_251 : decode cX11_writeLetters 251 = .ok (.aload_n 0, 1) := by decide +kernel
theorem dX11_writeLetters_252 : decode cX11_writeLetters 252 = .ok (.getfield 56, 3) := by decide +kernel
theorem dX11_writeLetters_255 : decode cX11_writeLetters 255 = .ok (.bipush 99, 2) := by decide +kernel
theorem dX11_writeLetters_257 : decode cX11_writeLetters 257 = .ok (.aload_n 0, 1) := by decide +kernel
theorem dX11_writeLetters_258 : decode cX11_writeLetters 258 = .ok (.aload_n 1, 1) := by decide +kernel
theorem dX11_writeLetters_259 : decode cX11_writeLetters 259 = .ok (.invokevirtual 347, 3) := by decide +kernel
theorem dX11_writeLetters_262 : decode cX11_writeLetters 262 = .ok (.invokevirtual 461, 3) := by decide +kernel
theorem dX11_writeLetters_265 : decode cX11_writeLetters 265 = .ok (.return_, 1) := by decide +kernel
theorem dX11_barrier_0 : decode cX11_barrier 0 = .ok (.aload_n 1, 1) := by decide +kernel
theorem dX11_barrier_1 : decode cX11_barrier 1 = .ok (.getfield 264, 3) := by decide +kernel
theorem dX11_barrier_4 : decode cX11_barrier 4 = .ok (.ifCond .eq 5, 3) := by decide +kernel
theorem dX11_barrier_7 : decode cX11_barrier 7 = .ok (.iconst 1, 1) := by decide +kernel
theorem dX11_barrier_8 : decode cX11_barrier 8 = .ok (.ireturn, 1) := by decide +kernel
theorem dX11_barrier_9 : decode cX11_barrier 9 = .ok (.aload_n 1, 1) := by decide +kernel
theorem dX11_barrier_10 : decode cX11_barrier 10 = .ok (.getfield 260, 3) := by decide +kernel
theorem dX11_barrier_13 : decode cX11_barrier 13 = .ok (.ifCond .eq 5, 3) := by decide +kernel
theorem dX11_barrier_16 : decode cX11_barrier 16 = .ok (.iconst 2, 1) := by decide +kernel
theorem dX11_barrier_17 : decode cX11_barrier 17 = .ok (.ireturn, 1) := by decide +kernel
theorem dX11_barrier_18 : decode cX11_barrier 18 = .ok (.aload_n 0, 1) := by decide +kernel
theorem dX11_barrier_19 : decode cX11_barrier 19 = .ok (.aload_n 1, 1) := by decide +kernel
theorem dX11_barrier_20 : decode cX11_barrier 20 = .ok (.invokevirtual 280, 3) := by decide +kernel
theorem dX11_barrier_23 : decode cX11_barrier 23 = .ok (.ifCond .eq 5, 3) := by decide +kernel
theorem dX11_barrier_26 : decode cX11_barrier 26 = .ok (.iconst 3, 1) := by decide +kernel
theorem dX11_barrier_27 : decode cX11_barrier 27 = .ok (.ireturn, 1) := by decide +kernel
theorem dX11_barrier_28 : decode cX11_barrier 28 = .ok (.aload_n 1, 1) := by decide +kernel
theorem dX11_barrier_29 : decode cX11_barrier 29 = .ok (.invokevirtual 483, 3) := by decide +kernel
theorem dX11_barrier_32 : decode cX11_barrier 32 = .ok (.ifCond .eq 5, 3) := by decide +kernel
theorem dX11_barrier_35 : decode cX11_barrier 35 = .ok (.iconst 4, 1) := by decide +kernel
theorem dX11_barrier_36 : decode cX11_barrier 36 = .ok (.ireturn, 1) := by decide +kernel
theorem dX11_barrier_37 : decode cX11_barrier 37 = .ok (.aload_n 1, 1) := by decide +kernel
theorem dX11_barrier_38 : decode cX11_barrier 38 = .ok (.aload_n 2, 1) := by decide +kernel
theorem dX11_barrier_39 : decode cX11_barrier 39 = .ok (.aload_n 0, 1) := by decide +kernel
theorem dX11_barrier_40 : decode cX11_barrier 40 = .ok (.getfield 95, 3) := by decide +kernel
theorem dX11_barrier_43 : decode cX11_barrier 43 = .ok (.invokevirtual 487, 3) := by decide +kernel
theorem dX11_barrier_46 : decode cX11_barrier 46 = .ok (.ifCond .eq 5, 3) := by decide +kernel
theorem dX11_barrier_49 : decode cX11_barrier 49 = .ok (.iconst 5, 1) := by decide +kernel
theorem dX11_barrier_50 : decode cX11_barrier 50 = .ok (.ireturn, 1) := by decide +kernel
theorem dX11_barrier_51 : decode cX11_barrier 51 = .ok (.aload_n 0, 1) := by decide +kernel
theorem dX11_barrier_52 : decode cX11_barrier 52 = .ok (.aload_n 1, 1) := by decide +kernel
theorem dX11_barrier_53 : decode cX11_barrier 53 = .ok (.getfield 203, 3) := by decide +kernel
theorem dX11_barrier_56 : decode cX11_barrier 56 = .ok (.aload_n 1, 1) := by decide +kernel
theorem dX11_barrier_57 : decode cX11_barrier 57 = .ok (.aload_n 2, 1) := by decide +kernel
theorem dX11_barrier_58 : decode cX11_barrier 58 = .ok (.iconst 0, 1) := by decide +kernel
theorem dX11_barrier_59 : decode cX11_barrier 59 = .ok (.invokevirtual 207, 3) := by decide +kernel
theorem dX11_barrier_62 : decode cX11_barrier 62 = .ok (.aload_n 0, 1) := by decide +kernel
theorem dX11_barrier_63 : decode cX11_barrier 63 = .ok (.getfield 56, 3) := by decide +kernel
theorem dX11_barrier_66 : decode cX11_barrier 66 = .ok (.bipush 97, 2) := by decide +kernel
theorem dX11_barrier_68 : decode cX11_barrier 68 = .ok (.invokevirtual 491, 3) := by decide +kernel
theorem dX11_barrier_71 : decode cX11_barrier 71 = .ok (.ifCond .ne 6, 3) := by decide +kernel
theorem dX11_barrier_74 : decode cX11_barrier 74 = .ok (.bipush 6, 2) := by decide +kernel
theorem dX11_barrier_76 : decode cX11_barrier 76 = .ok (.ireturn, 1) := by decide +kernel
theorem dX11_barrier_77 : decode cX11_barrier 77 = .ok (.aload_n 0, 1) := by decide +kernel
theorem dX11_barrier_78 : decode cX11_barrier 78 = .ok (.getfield 56, 3) := by decide +kernel
theorem dX11_barrier_81 : decode cX11_barrier 81 = .ok (.bipush 117, 2) := by decide +kernel
theorem dX11_barrier_83 : decode cX11_barrier 83 = .ok (.invokevirtual 495, 3) := by decide +kernel
theorem dX11_barrier_86 : decode cX11_barrier 86 = .ok (.ifCond .eq 8, 3) := by decide +kernel
theorem dX11_barrier_89 : decode cX11_barrier 89 = .ok (.bipush 7, 2) := by decide +kernel
theorem dX11_barrier_91 : decode cX11_barrier 91 = .ok (.goto 4, 3) := by decide +kernel
theorem dX11_barrier_94 : decode cX11_barrier 94 = .ok (.iconst 0, 1) := by decide +kernel
theorem dX11_barrier_95 : decode cX11_barrier 95 = .ok (.ireturn, 1) := by decide +kernel
theorem dX11_settle_0 : decode cX11_settle 0 = .ok (.aload_n 0, 1) := by decide +kernel
theorem dX11_settle_1 : decode cX11_settle 1 = .ok (.aload_n 1, 1) := by decide +kernel
theorem dX11_settle_2 : decode cX11_settle 2 = .ok (.getfield 203, 3) := by decide +kernel
theorem dX11_settle_5 : decode cX11_settle 5 = .ok (.aload_n 1, 1) := by decide +kernel
theorem dX11_settle_6 : decode cX11_settle 6 = .ok (.aload_n 2, 1) := by decide +kernel
theorem dX11_settle_7 : decode cX11_settle 7 = .ok (.iload_n 3, 1) := by decide +kernel
theorem dX11_settle_8 : decode cX11_settle 8 = .ok (.invokevirtual 207, 3) := by decide +kernel
theorem dX11_settle_11 : decode cX11_settle 11 = .ok (.aload_n 0, 1) := by decide +kernel
theorem dX11_settle_12 : decode cX11_settle 12 = .ok (.getfield 56, 3) := by decide +kernel
theorem dX11_settle_15 : decode cX11_settle 15 = .ok (.bipush 102, 2) := by decide +kernel
theorem dX11_settle_17 : decode cX11_settle 17 = .ok (.iconst 0, 1) := by decide +kernel
theorem dX11_settle_18 : decode cX11_settle 18 = .ok (.iconst 0, 1) := by decide +kernel
theorem dX11_settle_19 : decode cX11_settle 19 = .ok (.ldc_w 256, 3) := by decide +kernel
theorem dX11_settle_22 : decode cX11_settle 22 = .ok (.invokevirtual 211, 3) := by decide +kernel
theorem dX11_settle_25 : decode cX11_settle 25 = .ok (.istore 5, 2) := by decide +kernel
theorem dX11_settle_27 : decode cX11_settle 27 = .ok (.aload_n 0, 1) := by decide +kernel
theorem dX11_settle_28 : decode cX11_settle 28 = .ok (.getfield 56, 3) := by decide +kernel
theorem dX11_settle_31 : decode cX11_settle 31 = .ok (.bipush 111, 2) := by decide +kernel
theorem dX11_settle_33 : decode cX11_settle 33 = .ok (.invokevirtual 495, 3) := by decide +kernel
theorem dX11_settle_36 : decode cX11_settle 36 = .ok (.istore 6, 2) := by decide +kernel
theorem dX11_settle_38 : decode cX11_settle 38 = .ok (.iload 4, 2) := by decide +kernel
theorem dX11_settle_40 : decode cX11_settle 40 = .ok (.aload_n 0, 1) := by decide +kernel
theorem dX11_settle_41 : decode cX11_settle 41 = .ok (.getfield 56, 3) := by decide +kernel
theorem dX11_settle_44 : decode cX11_settle 44 = .ok (.bipush 112, 2) := by decide +kernel
theorem dX11_settle_46 : decode cX11_settle 46 = .ok (.iconst 0, 1) := by decide +kernel
theorem dX11_settle_47 : decode cX11_settle 47 = .ok (.iconst 0, 1) := by decide +kernel
theorem dX11_settle_48 : decode cX11_settle 48 = .ok (.ldc_w 256, 3) := by decide +kernel
theorem dX11_settle_51 : decode cX11_settle 51 = .ok (.invokevirtual 211, 3) := by decide +kernel
theorem dX11_settle_54 : decode cX11_settle 54 = .ok (.imul, 1) := by decide +kernel
theorem dX11_settle_55 : decode cX11_settle 55 = .ok (.iload 6, 2) := by decide +kernel
theorem dX11_settle_57 : decode cX11_settle 57 = .ok (.ifCond .eq 7, 3) := by decide +kernel
theorem dX11_settle_60 : decode cX11_settle 60 = .ok (.iconst 0, 1) := by decide +kernel
theorem dX11_settle_61 : decode cX11_settle 61 = .ok (.goto 5, 3) := by decide +kernel
theorem dX11_settle_64 : decode cX11_settle 64 = .ok (.iload 5, 2) := by decide +kernel
theorem dX11_settle_66 : decode cX11_settle 66 = .ok (.iadd, 1) := by decide +kernel
theorem dX11_settle_67 : decode cX11_settle 67 = .ok (.istore 7, 2) := by decide +kernel
theorem dX11_settle_69 : decode cX11_settle 69 = .ok (.aload_n 1, 1) := by decide +kernel
theorem dX11_settle_70 : decode cX11_settle 70 = .ok (.aload_n 0, 1) := by decide +kernel
theorem dX11_settle_71 : decode cX11_settle 71 = .ok (.getfield 56, 3) := by decide +kernel
theorem dX11_settle_74 : decode cX11_settle 74 = .ok (.bipush 119, 2) := by decide +kernel
theorem dX11_settle_76 : decode cX11_settle 76 = .ok (.invokevirtual 495, 3) := by decide +kernel
theorem dX11_settle_79 : decode cX11_settle 79 = .ok (.putfield 260, 3) := by decide +kernel
theorem dX11_settle_82 : decode cX11_settle 82 = .ok (.aload_n 2, 1) := by decide +kernel
theorem dX11_settle_83 : decode cX11_settle 83 = .ok (.dup, 1) := by decide +kernel
theorem dX11_settle_84 : decode cX11_settle 84 = .ok (.getfield 257, 3) := by decide +kernel
theorem dX11_settle_87 : decode cX11_settle 87 = .ok (.iload 7, 2) := by decide +kernel
theorem dX11_settle_89 : decode cX11_settle 89 = .ok (.iadd, 1) := by decide +kernel
theorem dX11_settle_90 : decode cX11_settle 90 = .ok (.putfield 257, 3) := by decide +kernel
theorem dX11_settle_93 : decode cX11_settle 93 = .ok (.aload_n 0, 1) := by decide +kernel
theorem dX11_settle_94 : decode cX11_settle 94 = .ok (.aload_n 2, 1) := by decide +kernel
theorem dX11_settle_95 : decode cX11_settle 95 = .ok (.getfield 498, 3) := by decide +kernel
theorem dX11_settle_98 : decode cX11_settle 98 = .ok (.iload_n 3, 1) := by decide +kernel
theorem dX11_settle_99 : decode cX11_settle 99 = .ok (.invokevirtual 501, 3) := by decide +kernel
theorem dX11_settle_102 : decode cX11_settle 102 = .ok (.aload_n 2, 1) := by decide +kernel
theorem dX11_settle_103 : decode cX11_settle 103 = .ok (.iload 5, 2) := by decide +kernel
theorem dX11_settle_105 : decode cX11_settle 105 = .ok (.ifCond .ne 7, 3) := by decide +kernel
theorem dX11_settle_108 : decode cX11_settle 108 = .ok (.iconst 0, 1) := by decide +kernel
theorem dX11_settle_109 : decode cX11_settle 109 = .ok (.goto 13, 3) := by decide +kernel
theorem dX11_settle_112 : decode cX11_settle 112 = .ok (.iload 6, 2) := by decide +kernel
theorem dX11_settle_114 : decode cX11_settle 114 = .ok (.ifCond .eq 7, 3) := by decide +kernel
theorem dX11_settle_117 : decode cX11_settle 117 = .ok (.iconst 1, 1) := by decide +kernel
theorem dX11_settle_118 : decode cX11_settle 118 = .ok (.goto 4, 3) := by decide +kernel
theorem dX11_settle_121 : decode cX11_settle 121 = .ok (.iconst 2, 1) := by decide +kernel
theorem dX11_settle_122 : decode cX11_settle 122 = .ok (.putfield 498, 3) := by decide +kernel
theorem dX11_settle_125 : decode cX11_settle 125 = .ok (.iload 7, 2) := by decide +kernel
theorem dX11_settle_127 : decode cX11_settle 127 = .ok (.ireturn, 1) := by decide +kernel
theorem dX11_noteBehindFine_0 : decode cX11_noteBehindFine 0 = .ok (.iload_n 1, 1) := by decide +kernel
theorem dX11_noteBehindFine_1 : decode cX11_noteBehindFine 1 = .ok (.ifCond .ne 4, 3) := by decide +kernel
theorem dX11_noteBehindFine_4 : decode cX11_noteBehindFine 4 = .ok (.return_, 1) := by decide +kernel
theorem dX11_noteBehindFine_5 : decode cX11_noteBehindFine 5 = .ok (.iload_n 1, 1) := by decide +kernel
theorem dX11_noteBehindFine_6 : decode cX11_noteBehindFine 6 = .ok (.iconst 1, 1) := by decide +kernel
theorem dX11_noteBehindFine_7 : decode cX11_noteBehindFine 7 = .ok (.if_icmp .ne 7, 3) := by decide +kernel
theorem dX11_noteBehindFine_10 : decode cX11_noteBehindFine 10 = .ok (.iconst 0, 1) := by decide +kernel
theorem dX11_noteBehindFine_11 : decode cX11_noteBehindFine 11 = .ok (.goto 4, 3) := by decide +kernel
theorem dX11_noteBehindFine_14 : decode cX11_noteBehindFine 14 = .ok (.iconst 2, 1) := by decide +kernel
theorem dX11_noteBehindFine_15 : decode cX11_noteBehindFine 15 = .ok (.istore_n 3, 1) := by decide +kernel
theorem dX11_noteBehindFine_16 : decode cX11_noteBehindFine 16 = .ok (.aload_n 0, 1) := by decide +kernel
theorem dX11_noteBehindFine_17 : decode cX11_noteBehindFine 17 = .ok (.getfield 25, 3) := by decide +kernel
theorem dX11_noteBehindFine_20 : decode cX11_noteBehindFine 20 = .ok (.iload_n 3, 1) := by decide +kernel
theorem dX11_noteBehindFine_21 : decode cX11_noteBehindFine 21 = .ok (.dup2, 1) := by decide +kernel
theorem dX11_noteBehindFine_22 : decode cX11_noteBehindFine 22 = .ok (.iaload, 1) := by decide +kernel
theorem dX11_noteBehindFine_23 : decode cX11_noteBehindFine 23 = .ok (.iconst 1, 1) := by decide +kernel
theorem dX11_noteBehindFine_24 : decode cX11_noteBehindFine 24 = .ok (.iadd, 1) := by decide +kernel
theorem dX11_noteBehindFine_25 : decode cX11_noteBehindFine 25 = .ok (.iastore, 1) := by decide +kernel
theorem dX11_noteBehindFine_26 : decode cX11_noteBehindFine 26 = .ok (.iload_n 2, 1) := by decide +kernel
theorem dX11_noteBehindFine_27 : decode cX11_noteBehindFine 27 = .ok (.ifCond .le 15, 3) := by decide +kernel
theorem dX11_noteBehindFine_30 : decode cX11_noteBehindFine 30 = .ok (.aload_n 0, 1) := by decide +kernel
theorem dX11_noteBehindFine_31 : decode cX11_noteBehindFine 31 = .ok (.getfield 25, 3) := by decide +kernel
theorem dX11_noteBehindFine_34 : decode cX11_noteBehindFine 34 = .ok (.iload_n 3, 1) := by decide +kernel
theorem dX11_noteBehindFine_35 : decode cX11_noteBehindFine 35 = .ok (.iconst 1, 1) := by decide +kernel
theorem dX11_noteBehindFine_36 : decode cX11_noteBehindFine 36 = .ok (.iadd, 1) := by decide +kernel
theorem dX11_noteBehindFine_37 : decode cX11_noteBehindFine 37 = .ok (.dup2, 1) := by decide +kernel
theorem dX11_noteBehindFine_38 : decode cX11_noteBehindFine 38 = .ok (.iaload, 1) := by decide +kernel
theorem dX11_noteBehindFine_39 : decode cX11_noteBehindFine 39 = .ok (.iconst 1, 1) := by decide +kernel
theorem dX11_noteBehindFine_40 : decode cX11_noteBehindFine 40 = .ok (.iadd, 1) := by decide +kernel
theorem dX11_noteBehindFine_41 : decode cX11_noteBehindFine 41 = .ok (.iastore, 1) := by decide +kernel
theorem dX11_noteBehindFine_42 : decode cX11_noteBehindFine 42 = .ok (.return_, 1) := by decide +kernel
theorem dX11_turnOf_0 : decode cX11_turnOf 0 = .ok (.aload_n 0, 1) := by decide +kernel
theorem dX11_turnOf_1 : decode cX11_turnOf 1 = .ok (.aload_n 2, 1) := by decide +kernel
theorem dX11_turnOf_2 : decode cX11_turnOf 2 = .ok (.aconst_null, 1) := by decide +kernel
theorem dX11_turnOf_3 : decode cX11_turnOf 3 = .ok (.aload_n 1, 1) := by decide +kernel
theorem dX11_turnOf_4 : decode cX11_turnOf 4 = .ok (.iconst 0, 1) := by decide +kernel
theorem dX11_turnOf_5 : decode cX11_turnOf 5 = .ok (.invokevirtual 207, 3) := by decide +kernel
theorem dX11_turnOf_8 : decode cX11_turnOf 8 = .ok (.aload_n 0, 1) := by decide +kernel
theorem dX11_turnOf_9 : decode cX11_turnOf 9 = .ok (.getfield 56, 3) := by decide +kernel
theorem dX11_turnOf_12 : decode cX11_turnOf 12 = .ok (.bipush 110, 2) := by decide +kernel
theorem dX11_turnOf_14 : decode cX11_turnOf 14 = .ok (.iconst 0, 1) := by decide +kernel
theorem dX11_turnOf_15 : decode cX11_turnOf 15 = .ok (.ldc_w 504, 3) := by decide +kernel
theorem dX11_turnOf_18 : decode cX11_turnOf 18 = .ok (.ldc_w 256, 3) := by decide +kernel
theorem dX11_turnOf_21 : decode cX11_turnOf 21 = .ok (.invokevirtual 211, 3) := by decide +kernel
theorem dX11_turnOf_24 : decode cX11_turnOf 24 = .ok (.ireturn, 1) := by decide +kernel
theorem dX11_firstInTurn_0 : decode cX11_firstInTurn 0 = .ok (.aconst_null, 1) := by decide +kernel
theorem dX11_firstInTurn_1 : decode cX11_firstInTurn 1 = .ok (.astore_n 2, 1) := by decide +kernel
theorem dX11_firstInTurn_2 : decode cX11_firstInTurn 2 = .ok (.iconst 0, 1) := by decide +kernel
theorem dX11_firstInTurn_3 : decode cX11_firstInTurn 3 = .ok (.istore_n 3, 1) := by decide +kernel
theorem dX11_firstInTurn_4 : decode cX11_firstInTurn 4 = .ok (.iconst 0, 1) := by decide +kernel
theorem dX11_firstInTurn_5 : decode cX11_firstInTurn 5 = .ok (.istore 4, 2) := by decide +kernel
theorem dX11_firstInTurn_7 : decode cX11_firstInTurn 7 = .ok (.iload 4, 2) := by decide +kernel
theorem dX11_firstInTurn_9 : decode cX11_firstInTurn 9 = .ok (.aload_n 0, 1) := by decide +kernel
theorem dX11_firstInTurn_10 : decode cX11_firstInTurn 10 = .ok (.getfield 38, 3) := by decide +kernel
theorem dX11_firstInTurn_13 : decode cX11_firstInTurn 13 = .ok (.invokevirtual 103, 3) := by decide +kernel
theorem dX11_firstInTurn_16 : decode cX11_firstInTurn 16 = .ok (.if_icmp .ge 122, 3) := by decide +kernel
theorem dX11_firstInTurn_19 : decode cX11_firstInTurn 19 = .ok (.aload_n 0, 1) := by decide +kernel
theorem dX11_firstInTurn_20 : decode cX11_firstInTurn 20 = .ok (.getfield 38, 3) := by decide +kernel
theorem dX11_firstInTurn_23 : decode cX11_firstInTurn 23 = .ok (.iload 4, 2) := by decide +kernel
theorem dX11_firstInTurn_25 : decode cX11_firstInTurn 25 = .ok (.invokevirtual 324, 3) := by decide +kernel
theorem dX11_firstInTurn_28 : decode cX11_firstInTurn 28 = .ok (.checkcast 139, 3) := by decide +kernel
theorem dX11_firstInTurn_31 : decode cX11_firstInTurn 31 = .ok (.astore 5, 2) := by decide +kernel
theorem dX11_firstInTurn_33 : decode cX11_firstInTurn 33 = .ok (.aload 5, 2) := by decide +kernel
theorem dX11_firstInTurn_35 : decode cX11_firstInTurn 35 = .ok (.aload_n 1, 1) := by decide +kernel
theorem dX11_firstInTurn_36 : decode cX11_firstInTurn 36 = .ok (.getfield 116, 3) := by decide +kernel
theorem dX11_firstInTurn_39 : decode cX11_firstInTurn 39 = .ok (.invokevirtual 335, 3) := by decide +kernel
theorem dX11_firstInTurn_42 : decode cX11_firstInTurn 42 = .ok (.ifCond .eq 90, 3) := by decide +kernel
theorem dX11_firstInTurn_45 : decode cX11_firstInTurn 45 = .ok (.aload_n 0, 1) := by decide +kernel
theorem dX11_firstInTurn_46 : decode cX11_firstInTurn 46 = .ok (.aload 5, 2) := by decide +kernel
theorem dX11_firstInTurn_48 : decode cX11_firstInTurn 48 = .ok (.aload_n 1, 1) := by decide +kernel
theorem dX11_firstInTurn_49 : decode cX11_firstInTurn 49 = .ok (.invokevirtual 354, 3) := by decide +kernel
theorem dX11_firstInTurn_52 : decode cX11_firstInTurn 52 = .ok (.istore 6, 2) := by decide +kernel
theorem dX11_firstInTurn_54 : decode cX11_firstInTurn 54 = .ok (.aload_n 2, 1) := by decide +kernel
theorem dX11_firstInTurn_55 : decode cX11_firstInTurn 55 = .ok (.ifnull 13, 3) := by decide +kernel
theorem dX11_firstInTurn_58 : decode cX11_firstInTurn 58 = .ok (.iload 6, 2) := by decide +kernel
theorem dX11_firstInTurn_60 : decode cX11_firstInTurn 60 = .ok (.iload_n 3, 1) := by decide +kernel
theorem dX11_firstInTurn_61 : decode cX11_firstInTurn 61 = .ok (.if_icmp .ne 7, 3) := by decide +kernel
theorem dX11_firstInTurn_64 : decode cX11_firstInTurn 64 = .ok (.iconst 1, 1) := by decide +kernel
theorem dX11_firstInTurn_65 : decode cX11_firstInTurn 65 = .ok (.goto 4, 3) := by decide +kernel
theorem dX11_firstInTurn_68 : decode cX11_firstInTurn 68 = .ok (.iconst 0, 1) := by decide +kernel
theorem dX11_firstInTurn_69 : decode cX11_firstInTurn 69 = .ok (.istore 7, 2) := by decide +kernel
theorem dX11_firstInTurn_71 : decode cX11_firstInTurn 71 = .ok (.iload 7, 2) := by decide +kernel
theorem dX11_firstInTurn_73 : decode cX11_firstInTurn 73 = .ok (.ifCond .eq 35, 3) := by decide +kernel
theorem dX11_firstInTurn_76 : decode cX11_firstInTurn 76 = .ok (.aload 5, 2) := by decide +kernel
theorem dX11_firstInTurn_78 : decode cX11_firstInTurn 78 = .ok (.aload_n 1, 1) := by decide +kernel
theorem dX11_firstInTurn_79 : decode cX11_firstInTurn 79 = .ok (.getfield 116, 3) := by decide +kernel
theorem dX11_firstInTurn_82 : decode cX11_firstInTurn 82 = .ok (.aload_n 0, 1) := by decide +kernel
theorem dX11_firstInTurn_83 : decode cX11_firstInTurn 83 = .ok (.getfield 95, 3) := by decide +kernel
theorem dX11_firstInTurn_86 : decode cX11_firstInTurn 86 = .ok (.invokevirtual 480, 3) := by decide +kernel
theorem dX11_firstInTurn_89 : decode cX11_firstInTurn 89 = .ok (.aload_n 2, 1) := by decide +kernel
theorem dX11_firstInTurn_90 : decode cX11_firstInTurn 90 = .ok (.aload_n 1, 1) := by decide +kernel
theorem dX11_firstInTurn_91 : decode cX11_firstInTurn 91 = .ok (.getfield 116, 3) := by decide +kernel
theorem dX11_firstInTurn_94 : decode cX11_firstInTurn 94 = .ok (.aload_n 0, 1) := by decide +kernel
theorem dX11_firstInTurn_95 : decode cX11_firstInTurn 95 = .ok (.getfield 95, 3) := by decide +kernel
theorem dX11_firstInTurn_98 : decode cX11_firstInTurn 98 = .ok (.invokevirtual 480, 3) := by decide +kernel
theorem dX11_firstInTurn_101 : decode cX11_firstInTurn 101 = .ok (.if_icmp .le 7, 3) := by decide +kernel
theorem dX11_firstInTurn_104 : decode cX11_firstInTurn 104 = .ok (.iconst 1, 1) := by decide +kernel
theorem dX11_firstInTurn_105 : decode cX11_firstInTurn 105 = .ok (.goto 4, 3) := by decide +kernel
theorem dX11_firstInTurn_108 : decode cX11_firstInTurn 108 = .ok (.iconst 0, 1) := by decide +kernel
theorem dX11_firstInTurn_109 : decode cX11_firstInTurn 109 = .ok (.istore 8, 2) := by decide +kernel
theorem dX11_firstInTurn_111 : decode cX11_firstInTurn 111 = .ok (.aload_n 2, 1) := by decide +kernel
theorem dX11_firstInTurn_112 : decode cX11_firstInTurn 112 = .ok (.ifnull 14, 3) := by decide +kernel
theorem dX11_firstInTurn_115 : decode cX11_firstInTurn 115 = .ok (.iload 6, 2) := by decide +kernel
theorem dX11_firstInTurn_117 : decode cX11_firstInTurn 117 = .ok (.iload_n 3, 1) := by decide +kernel
theorem dX11_firstInTurn_118 : decode cX11_firstInTurn 118 = .ok (.if_icmp .gt 8, 3) := by decide +kernel
theorem dX11_firstInTurn_121 : decode cX11_firstInTurn 121 = .ok (.iload 8, 2) := by decide +kernel
theorem dX11_firstInTurn_123 : decode cX11_firstInTurn 123 = .ok (.ifCond .eq 9, 3) := by decide +kernel
theorem dX11_firstInTurn_126 : decode cX11_firstInTurn 126 = .ok (.aload 5, 2) := by decide +kernel
theorem dX11_firstInTurn_128 : decode cX11_firstInTurn 128 = .ok (.astore_n 2, 1) := by decide +kernel
theorem dX11_firstInTurn_129 : decode cX11_firstInTurn 129 = .ok (.iload 6, 2) := by decide +kernel
theorem dX11_firstInTurn_131 : decode cX11_firstInTurn 131 = .ok (.istore_n 3, 1) := by decide +kernel
theorem dX11_firstInTurn_132 : decode cX11_firstInTurn 132 = .ok (.iinc 4 1, 3) := by decide +kernel
theorem dX11_firstInTurn_135 : decode cX11_firstInTurn 135 = .ok (.goto (-128), 3) := by decide +kernel
theorem dX11_firstInTurn_138 : decode cX11_firstInTurn 138 = .ok (.aload_n 2, 1) := by decide +kernel
theorem dX11_firstInTurn_139 : decode cX11_firstInTurn 139 = .ok (.areturn, 1) := by decide +kernel
theorem dX11_takersOf_0 : decode cX11_takersOf 0 = .ok (.iconst 0, 1) := by decide +kernel
theorem dX11_takersOf_1 : decode cX11_takersOf 1 = .ok (.istore_n 3, 1) := by decide +kernel
theorem dX11_takersOf_2 : decode cX11_takersOf 2 = .ok (.iconst 0, 1) := by decide +kernel
theorem dX11_takersOf_3 : decode cX11_takersOf 3 = .ok (.istore 4, 2) := by decide +kernel
theorem dX11_takersOf_5 : decode cX11_takersOf 5 = .ok (.iload 4, 2) := by decide +kernel
theorem dX11_takersOf_7 : decode cX11_takersOf 7 = .ok (.aload_n 0, 1) := by decide +kernel
theorem dX11_takersOf_8 : decode cX11_takersOf 8 = .ok (.getfield 38, 3) := by decide +kernel
theorem dX11_takersOf_11 : decode cX11_takersOf 11 = .ok (.invokevirtual 103, 3) := by decide +kernel
theorem dX11_takersOf_14 : decode cX11_takersOf 14 = .ok (.if_icmp .ge 76, 3) := by decide +kernel
theorem dX11_takersOf_17 : decode cX11_takersOf 17 = .ok (.aload_n 0, 1) := by decide +kernel
theorem dX11_takersOf_18 : decode cX11_takersOf 18 = .ok (.getfield 38, 3) := by decide +kernel
theorem dX11_takersOf_21 : decode cX11_takersOf 21 = .ok (.iload 4, 2) := by decide +kernel
theorem dX11_takersOf_23 : decode cX11_takersOf 23 = .ok (.invokevirtual 324, 3) := by decide +kernel
theorem dX11_takersOf_26 : decode cX11_takersOf 26 = .ok (.checkcast 139, 3) := by decide +kernel
theorem dX11_takersOf_29 : decode cX11_takersOf 29 = .ok (.astore 5, 2) := by decide +kernel
theorem dX11_takersOf_31 : decode cX11_takersOf 31 = .ok (.aload 5, 2) := by decide +kernel
theorem dX11_takersOf_33 : decode cX11_takersOf 33 = .ok (.getfield 477, 3) := by decide +kernel
theorem dX11_takersOf_36 : decode cX11_takersOf 36 = .ok (.iload_n 2, 1) := by decide +kernel
theorem dX11_takersOf_37 : decode cX11_takersOf 37 = .ok (.if_icmp .ne 22, 3) := by decide +kernel
theorem dX11_takersOf_40 : decode cX11_takersOf 40 = .ok (.aload 5, 2) := by decide +kernel
theorem dX11_takersOf_42 : decode cX11_takersOf 42 = .ok (.aload_n 1, 1) := by decide +kernel
theorem dX11_takersOf_43 : decode cX11_takersOf 43 = .ok (.getfield 203, 3) := by decide +kernel
theorem dX11_takersOf_46 : decode cX11_takersOf 46 = .ok (.getfield 116, 3) := by decide +kernel
theorem dX11_takersOf_49 : decode cX11_takersOf 49 = .ok (.invokevirtual 335, 3) := by decide +kernel
theorem dX11_takersOf_52 : decode cX11_takersOf 52 = .ok (.ifCond .eq 7, 3) := by decide +kernel
theorem dX11_takersOf_55 : decode cX11_takersOf 55 = .ok (.iconst 1, 1) := by decide +kernel
theorem dX11_takersOf_56 : decode cX11_takersOf 56 = .ok (.goto 4, 3) := by decide +kernel
theorem dX11_takersOf_59 : decode cX11_takersOf 59 = .ok (.iconst 0, 1) := by decide +kernel
theorem dX11_takersOf_60 : decode cX11_takersOf 60 = .ok (.istore 6, 2) := by decide +kernel
theorem dX11_takersOf_62 : decode cX11_takersOf 62 = .ok (.iload 6, 2) := by decide +kernel
theorem dX11_takersOf_64 : decode cX11_takersOf 64 = .ok (.ifCond .eq 20, 3) := by decide +kernel
theorem dX11_takersOf_67 : decode cX11_takersOf 67 = .ok (.aload_n 0, 1) := by decide +kernel
theorem dX11_takersOf_68 : decode cX11_takersOf 68 = .ok (.aload_n 1, 1) := by decide +kernel
theorem dX11_takersOf_69 : decode cX11_takersOf 69 = .ok (.aload 5, 2) := by decide +kernel
theorem dX11_takersOf_71 : decode cX11_takersOf 71 = .ok (.invokevirtual 196, 3) := by decide +kernel
theorem dX11_takersOf_74 : decode cX11_takersOf 74 = .ok (.ifCond .ne 10, 3) := by decide +kernel
theorem dX11_takersOf_77 : decode cX11_takersOf 77 = .ok (.iload_n 3, 1) := by decide +kernel
theorem dX11_takersOf_78 : decode cX11_takersOf 78 = .ok (.iconst 1, 1) := by decide +kernel
theorem dX11_takersOf_79 : decode cX11_takersOf 79 = .ok (.iload 4, 2) := by decide +kernel
theorem dX11_takersOf_81 : decode cX11_takersOf 81 = .ok (.ishl, 1) := by decide +kernel
theorem dX11_takersOf_82 : decode cX11_takersOf 82 = .ok (.ior, 1) := by decide +kernel
theorem dX11_takersOf_83 : decode cX11_takersOf 83 = .ok (.istore_n 3, 1) := by decide +kernel
theorem dX11_takersOf_84 : decode cX11_takersOf 84 = .ok (.iinc 4 1, 3) := by decide +kernel
theorem dX11_takersOf_87 : decode cX11_takersOf 87 = .ok (.goto (-82), 3) := by decide +kernel
theorem dX11_takersOf_90 : decode cX11_takersOf 90 = .ok (.iload_n 3, 1) := by decide +kernel
theorem dX11_takersOf_91 : decode cX11_takersOf 91 = .ok (.ireturn, 1) := by decide +kernel
theorem dX11_isForWhole_0 : decode cX11_isForWhole 0 = .ok (.aload_n 1, 1) := by decide +kernel
theorem dX11_isForWhole_1 : decode cX11_isForWhole 1 = .ok (.getfield 203, 3) := by decide +kernel
theorem dX11_isForWhole_4 : decode cX11_isForWhole 4 = .ok (.aload_n 2, 1) := by decide +kernel
theorem dX11_isForWhole_5 : decode cX11_isForWhole 5 = .ok (.if_acmp .ne 22, 3) := by decide +kernel
theorem dX11_isForWhole_8 : decode cX11_isForWhole 8 = .ok (.aload_n 1, 1) := by decide +kernel
theorem dX11_isForWhole_9 : decode cX11_isForWhole 9 = .ok (.getfield 264, 3) := by decide +kernel
theorem dX11_isForWhole_12 : decode cX11_isForWhole 12 = .ok (.ifCond .ne 15, 3) := by decide +kernel
theorem dX11_isForWhole_15 : decode cX11_isForWhole 15 = .ok (.aload_n 0, 1) := by decide +kernel
theorem dX11_isForWhole_16 : decode cX11_isForWhole 16 = .ok (.aload_n 1, 1) := by decide +kernel
theorem dX11_isForWhole_17 : decode cX11_isForWhole 17 = .ok (.invokevirtual 280, 3) := by decide +kernel
theorem dX11_isForWhole_20 : decode cX11_isForWhole 20 = .ok (.ifCond .ne 7, 3) := by decide +kernel
theorem dX11_isForWhole_23 : decode cX11_isForWhole 23 = .ok (.iconst 1, 1) := by decide +kernel
theorem dX11_isForWhole_24 : decode cX11_isForWhole 24 = .ok (.goto 4, 3) := by decide +kernel
theorem dX11_isForWhole_27 : decode cX11_isForWhole 27 = .ok (.iconst 0, 1) := by decide +kernel
theorem dX11_isForWhole_28 : decode cX11_isForWhole 28 = .ok (.ireturn, 1) := by decide +kernel
theorem dX11_couldBeWhole_0 : decode cX11_couldBeWhole 0 = .ok (.iconst 0, 1) := by decide +kernel
theorem dX11_couldBeWhole_1 : decode cX11_couldBeWhole 1 = .ok (.istore_n 2, 1) := by decide +kernel
theorem dX11_couldBeWhole_2 : decode cX11_couldBeWhole 2 = .ok (.iconst 0, 1) := by decide +kernel
theorem dX11_couldBeWhole_3 : decode cX11_couldBeWhole 3 = .ok (.istore_n 3, 1) := by decide +kernel
theorem dX11_couldBeWhole_4 : decode cX11_couldBeWhole 4 = .ok (.iload_n 3, 1) := by decide +kernel
theorem dX11_couldBeWhole_5 : decode cX11_couldBeWhole 5 = .ok (.aload_n 0, 1) := by decide +kernel
theorem dX11_couldBeWhole_6 : decode cX11_couldBeWhole 6 = .ok (.getfield 35, 3) := by decide +kernel
theorem dX11_couldBeWhole_9 : decode cX11_couldBeWhole 9 = .ok (.invokevirtual 103, 3) := by decide +kernel
theorem dX11_couldBeWhole_12 : decode cX11_couldBeWhole 12 = .ok (.if_icmp .ge 31, 3) := by decide +kernel
theorem dX11_couldBeWhole_15 : decode cX11_couldBeWhole 15 = .ok (.aload_n 0, 1) := by decide +kernel
theorem dX11_couldBeWhole_16 : decode cX11_couldBeWhole 16 = .ok (.aload_n 0, 1) := by decide +kernel
theorem dX11_couldBeWhole_17 : decode cX11_couldBeWhole 17 = .ok (.getfield 35, 3) := by decide +kernel
theorem dX11_couldBeWhole_20 : decode cX11_couldBeWhole 20 = .ok (.iload_n 3, 1) := by decide +kernel
theorem dX11_couldBeWhole_21 : decode cX11_couldBeWhole 21 = .ok (.invokevirtual 324, 3) := by decide +kernel
theorem dX11_couldBeWhole_24 : decode cX11_couldBeWhole 24 = .ok (.checkcast 133, 3) := by decide +kernel
theorem dX11_couldBeWhole_27 : decode cX11_couldBeWhole 27 = .ok (.aload_n 1, 1) := by decide +kernel
theorem dX11_couldBeWhole_28 : decode cX11_couldBeWhole 28 = .ok (.invokevirtual 505, 3) := by decide +kernel
theorem dX11_couldBeWhole_31 : decode cX11_couldBeWhole 31 = .ok (.ifCond .eq 6, 3) := by decide +kernel
theorem dX11_couldBeWhole_34 : decode cX11_couldBeWhole 34 = .ok (.iinc 2 1, 3) := by decide +kernel
theorem dX11_couldBeWhole_37 : decode cX11_couldBeWhole 37 = .ok (.iinc 3 1, 3) := by decide +kernel
theorem dX11_couldBeWhole_40 : decode cX11_couldBeWhole 40 = .ok (.goto (-36), 3) := by decide +kernel
theorem dX11_couldBeWhole_43 : decode cX11_couldBeWhole 43 = .ok (.iconst 0, 1) := by decide +kernel
theorem dX11_couldBeWhole_44 : decode cX11_couldBeWhole 44 = .ok (.istore_n 3, 1) := by decide +kernel
theorem dX11_couldBeWhole_45 : decode cX11_couldBeWhole 45 = .ok (.iload_n 3, 1) := by decide +kernel
theorem dX11_couldBeWhole_46 : decode cX11_couldBeWhole 46 = .ok (.bipush 6, 2) := by decide +kernel
theorem dX11_couldBeWhole_48 : decode cX11_couldBeWhole 48 = .ok (.if_icmp .ge 36, 3) := by decide +kernel
theorem dX11_couldBeWhole_51 : decode cX11_couldBeWhole 51 = .ok (.aload_n 1, 1) := by decide +kernel
theorem dX11_couldBeWhole_52 : decode cX11_couldBeWhole 52 = .ok (.getfield 127, 3) := by decide +kernel
theorem dX11_couldBeWhole_55 : decode cX11_couldBeWhole 55 = .ok (.iload_n 3, 1) := by decide +kernel
theorem dX11_couldBeWhole_56 : decode cX11_couldBeWhole 56 = .ok (.iaload, 1) := by decide +kernel
theorem dX11_couldBeWhole_57 : decode cX11_couldBeWhole 57 = .ok (.ifCond .le 21, 3) := by decide +kernel
theorem dX11_couldBeWhole_60 : decode cX11_couldBeWhole 60 = .ok (.iload_n 2, 1) := by decide +kernel
theorem dX11_couldBeWhole_61 : decode cX11_couldBeWhole 61 = .ok (.aload_n 0, 1) := by decide +kernel
theorem dX11_couldBeWhole_62 : decode cX11_couldBeWhole 62 = .ok (.aload_n 1, 1) := by decide +kernel
theorem dX11_couldBeWhole_63 : decode cX11_couldBeWhole 63 = .ok (.iload_n 3, 1) := by decide +kernel
theorem dX11_couldBeWhole_64 : decode cX11_couldBeWhole 64 = .ok (.invokevirtual 509, 3) := by decide +kernel
theorem dX11_couldBeWhole_67 : decode cX11_couldBeWhole 67 = .ok (.aload_n 1, 1) := by decide +kernel
theorem dX11_couldBeWhole_68 : decode cX11_couldBeWhole 68 = .ok (.getfield 127, 3) := by decide +kernel
theorem dX11_couldBeWhole_71 : decode cX11_couldBeWhole 71 = .ok (.iload_n 3, 1) := by decide +kernel
theorem dX11_couldBeWhole_72 : decode cX11_couldBeWhole 72 = .ok (.iaload, 1) := by decide +kernel
theorem dX11_couldBeWhole_73 : decode cX11_couldBeWhole 73 = .ok (.idiv, 1) := by decide +kernel
theorem dX11_couldBeWhole_74 : decode cX11_couldBeWhole 74 = .ok (.invokestatic 512, 3) := by decide +kernel
theorem dX11_couldBeWhole_77 : decode cX11_couldBeWhole 77 = .ok (.istore_n 2, 1) := by decide +kernel
theorem dX11_couldBeWhole_78 : decode cX11_couldBeWhole 78 = .ok (.iinc 3 1, 3) := by decide +kernel
theorem dX11_couldBeWhole_81 : decode cX11_couldBeWhole 81 = .ok (.goto (-36), 3) := by decide +kernel
theorem dX11_couldBeWhole_84 : decode cX11_couldBeWhole 84 = .ok (.iload_n 2, 1) := by decide +kernel
theorem dX11_couldBeWhole_85 : decode cX11_couldBeWhole 85 = .ok (.ireturn, 1) := by decide +kernel
theorem dX11_piecesForWhole_0 : decode cX11_piecesForWhole 0 = .ok (.iconst 0, 1) := by decide +kernel
theorem dX11_piecesForWhole_1 : decode cX11_piecesForWhole 1 = .ok (.istore_n 3, 1) := by decide +kernel
theorem dX11_piecesForWhole_2 : decode cX11_piecesForWhole 2 = .ok (.iconst 0, 1) := by decide +kernel
theorem dX11_piecesForWhole_3 : decode cX11_piecesForWhole 3 = .ok (.istore 4, 2) := by decide +kernel
theorem dX11_piecesForWhole_5 : decode cX11_piecesForWhole 5 = .ok (.iload 4, 2) := by decide +kernel
theorem dX11_piecesForWhole_7 : decode cX11_piecesForWhole 7 = .ok (.aload_n 0, 1) := by decide +kernel
theorem dX11_piecesForWhole_8 : decode cX11_piecesForWhole 8 = .ok (.getfield 35, 3) := by decide +kernel
theorem dX11_piecesForWhole_11 : decode cX11_piecesForWhole 11 = .ok (.invokevirtual 103, 3) := by decide +kernel
theorem dX11_piecesForWhole_14 : decode cX11_piecesForWhole 14 = .ok (.if_icmp .ge 49, 3) := by decide +kernel
theorem dX11_piecesForWhole_17 : decode cX11_piecesForWhole 17 = .ok (.aload_n 0, 1) := by decide +kernel
theorem dX11_piecesForWhole_18 : decode cX11_piecesForWhole 18 = .ok (.aload_n 0, 1) := by decide +kernel
theorem dX11_piecesForWhole_19 : decode cX11_piecesForWhole 19 = .ok (.getfield 35, 3) := by decide +kernel
theorem dX11_piecesForWhole_22 : decode cX11_piecesForWhole 22 = .ok (.iload 4, 2) := by decide +kernel
theorem dX11_piecesForWhole_24 : decode cX11_piecesForWhole 24 = .ok (.invokevirtual 324, 3) := by decide +kernel
theorem dX11_piecesForWhole_27 : decode cX11_piecesForWhole 27 = .ok (.checkcast 133, 3) := by decide +kernel
theorem dX11_piecesForWhole_30 : decode cX11_piecesForWhole 30 = .ok (.aload_n 1, 1) := by decide +kernel
theorem dX11_piecesForWhole_31 : decode cX11_piecesForWhole 31 = .ok (.invokevirtual 505, 3) := by decide +kernel
theorem dX11_piecesForWhole_34 : decode cX11_piecesForWhole 34 = .ok (.ifCond .eq 23, 3) := by decide +kernel
theorem dX11_piecesForWhole_37 : decode cX11_piecesForWhole 37 = .ok (.iload_n 3, 1) := by decide +kernel
theorem dX11_piecesForWhole_38 : decode cX11_piecesForWhole 38 = .ok (.aload_n 0, 1) := by decide +kernel
theorem dX11_piecesForWhole_39 : decode cX11_piecesForWhole 39 = .ok (.getfield 35, 3) := by decide +kernel
theorem dX11_piecesForWhole_42 : decode cX11_piecesForWhole 42 = .ok (.iload 4, 2) := by decide +kernel
theorem dX11_piecesForWhole_44 : decode cX11_piecesForWhole 44 = .ok (.invokevirtual 324, 3) := by decide +kernel
theorem dX11_piecesForWhole_47 : decode cX11_piecesForWhole 47 = .ok (.checkcast 133, 3) := by decide +kernel
theorem dX11_piecesForWhole_50 : decode cX11_piecesForWhole 50 = .ok (.getfield 287, 3) := by decide +kernel
theorem dX11_piecesForWhole_53 : decode cX11_piecesForWhole 53 = .ok (.iload_n 2, 1) := by decide +kernel
theorem dX11_piecesForWhole_54 : decode cX11_piecesForWhole 54 = .ok (.iaload, 1) := by decide +kernel
theorem dX11_piecesForWhole_55 : decode cX11_piecesForWhole 55 = .ok (.iadd, 1) := by decide +kernel
theorem dX11_piecesForWhole_56 : decode cX11_piecesForWhole 56 = .ok (.istore_n 3, 1) := by decide +kernel
theorem dX11_piecesForWhole_57 : decode cX11_piecesForWhole 57 = .ok (.iinc 4 1, 3) := by decide +kernel
theorem dX11_piecesForWhole_60 : decode cX11_piecesForWhole 60 = .ok (.goto (-55), 3) := by decide +kernel
theorem dX11_piecesForWhole_63 : decode cX11_piecesForWhole 63 = .ok (.iload_n 3, 1) := by decide +kernel
theorem dX11_piecesForWhole_64 : decode cX11_piecesForWhole 64 = .ok (.ireturn, 1) := by decide +kernel
theorem dX11_leastLackingSet_0 : decode cX11_leastLackingSet 0 = .ok (.iconst 0, 1) := by decide +kernel
theorem dX11_leastLackingSet_1 : decode cX11_leastLackingSet 1 = .ok (.istore_n 3, 1) := by decide +kernel
theorem dX11_leastLackingSet_2 : decode cX11_leastLackingSet 2 = .ok (.iconst 0, 1) := by decide +kernel
theorem dX11_leastLackingSet_3 : decode cX11_leastLackingSet 3 = .ok (.istore 4, 2) := by decide +kernel
theorem dX11_leastLackingSet_5 : decode cX11_leastLackingSet 5 = .ok (.iload 4, 2) := by decide +kernel
theorem dX11_leastLackingSet_7 : decode cX11_leastLackingSet 7 = .ok (.iload_n 2, 1) := by decide +kernel
theorem dX11_leastLackingSet_8 : decode cX11_leastLackingSet 8 = .ok (.if_icmp .ge 121, 3) := by decide +kernel
theorem dX11_leastLackingSet_11 : decode cX11_leastLackingSet 11 = .ok (.iconst (-1), 1) := by decide +kernel
theorem dX11_leastLackingSet_12 : decode cX11_leastLackingSet 12 = .ok (.istore 5, 2) := by decide +kernel
theorem dX11_leastLackingSet_14 : decode cX11_leastLackingSet 14 = .ok (.iconst 0, 1) := by decide +kernel
theorem dX11_leastLackingSet_15 : decode cX11_leastLackingSet 15 = .ok (.istore 6, 2) := by decide +kernel
theorem dX11_leastLackingSet_17 : decode cX11_leastLackingSet 17 = .ok (.iconst 0, 1) := by decide +kernel
theorem dX11_leastLackingSet_18 : decode cX11_leastLackingSet 18 = .ok (.istore 7, 2) := by decide +kernel
theorem dX11_leastLackingSet_20 : decode cX11_leastLackingSet 20 = .ok (.iload 7, 2) := by decide +kernel
theorem dX11_leastLackingSet_22 : decode cX11_leastLackingSet 22 = .ok (.aload_n 0, 1) := by decide +kernel
theorem dX11_leastLackingSet_23 : decode cX11_leastLackingSet 23 = .ok (.getfield 35, 3) := by decide +kernel
theorem dX11_leastLackingSet_26 : decode cX11_leastLackingSet 26 = .ok (.invokevirtual 103, 3) := by decide +kernel
theorem dX11_leastLackingSet_29 : decode cX11_leastLackingSet 29 = .ok (.if_icmp .ge 81, 3) := by decide +kernel
theorem dX11_leastLackingSet_32 : decode cX11_leastLackingSet 32 = .ok (.aload_n 0, 1) := by decide +kernel
theorem dX11_leastLackingSet_33 : decode cX11_leastLackingSet 33 = .ok (.getfield 35, 3) := by decide +kernel
theorem dX11_leastLackingSet_36 : decode cX11_leastLackingSet 36 = .ok (.iload 7, 2) := by decide +kernel
theorem dX11_leastLackingSet_38 : decode cX11_leastLackingSet 38 = .ok (.invokevirtual 324, 3) := by decide +kernel
theorem dX11_leastLackingSet_41 : decode cX11_leastLackingSet 41 = .ok (.checkcast 133, 3) := by decide +kernel
theorem dX11_leastLackingSet_44 : decode cX11_leastLackingSet 44 = .ok (.astore 8, 2) := by decide +kernel
theorem dX11_leastLackingSet_46 : decode cX11_leastLackingSet 46 = .ok (.iload_n 3, 1) := by decide +kernel
theorem dX11_leastLackingSet_47 : decode cX11_leastLackingSet 47 = .ok (.iload 7, 2) := by decide +kernel
theorem dX11_leastLackingSet_49 : decode cX11_leastLackingSet 49 = .ok (.ishr, 1) := by decide +kernel
theorem dX11_leastLackingSet_50 : decode cX11_leastLackingSet 50 = .ok (.iconst 1, 1) := by decide +kernel
theorem dX11_leastLackingSet_51 : decode cX11_leastLackingSet 51 = .ok (.iand, 1) := by decide +kernel
theorem dX11_leastLackingSet_52 : decode cX11_leastLackingSet 52 = .ok (.ifCond .ne 17, 3) := by decide +kernel
theorem dX11_leastLackingSet_55 : decode cX11_leastLackingSet 55 = .ok (.aload_n 0, 1) := by decide +kernel
theorem dX11_leastLackingSet_56 : decode cX11_leastLackingSet 56 = .ok (.aload 8, 2) := by decide +kernel
theorem dX11_leastLackingSet_58 : decode cX11_leastLackingSet 58 = .ok (.aload_n 1, 1) := by decide +kernel
theorem dX11_leastLackingSet_59 : decode cX11_leastLackingSet 59 = .ok (.invokevirtual 505, 3) := by decide +kernel
theorem dX11_leastLackingSet_62 : decode cX11_leastLackingSet 62 = .ok (.ifCond .eq 7, 3) := by decide +kernel
theorem dX11_leastLackingSet_65 : decode cX11_leastLackingSet 65 = .ok (.iconst 1, 1) := by decide +kernel
theorem dX11_leastLackingSet_66 : decode cX11_leastLackingSet 66 = .ok (.goto 4, 3) := by decide +kernel
theorem dX11_leastLackingSet_69 : decode cX11_leastLackingSet 69 = .ok (.iconst 0, 1) := by decide +kernel
theorem dX11_leastLackingSet_70 : decode cX11_leastLackingSet 70 = .ok (.istore 9, 2) := by decide +kernel
theorem dX11_leastLackingSet_72 : decode cX11_leastLackingSet 72 = .ok (.iload 9, 2) := by decide +kernel
theorem dX11_leastLackingSet_74 : decode cX11_leastLackingSet 74 = .ok (.ifCond .eq 30, 3) := by decide +kernel
theorem dX11_leastLackingSet_77 : decode cX11_leastLackingSet 77 = .ok (.iload 5, 2) := by decide +kernel
theorem dX11_leastLackingSet_79 : decode cX11_leastLackingSet 79 = .ok (.iconst (-1), 1) := by decide +kernel
theorem dX11_leastLackingSet_80 : decode cX11_leastLackingSet 80 = .ok (.if_icmp .eq 13, 3) := by decide +kernel
theorem dX11_leastLackingSet_83 : decode cX11_leastLackingSet 83 = .ok (.aload 8, 2) := by decide +kernel
theorem dX11_leastLackingSet_85 : decode cX11_leastLackingSet 85 = .ok (.invokevirtual 265, 3) := by decide +kernel
theorem dX11_leastLackingSet_88 : decode cX11_leastLackingSet 88 = .ok (.iload 6, 2) := by decide +kernel
theorem dX11_leastLackingSet_90 : decode cX11_leastLackingSet 90 = .ok (.if_icmp .ge 14, 3) := by decide +kernel
theorem dX11_leastLackingSet_93 : decode cX11_leastLackingSet 93 = .ok (.iload 7, 2) := by decide +kernel
theorem dX11_leastLackingSet_95 : decode cX11_leastLackingSet 95 = .ok (.istore 5, 2) := by decide +kernel
theorem dX11_leastLackingSet_97 : decode cX11_leastLackingSet 97 = .ok (.aload 8, 2) := by decide +kernel
theorem dX11_leastLackingSet_99 : decode cX11_leastLackingSet 99 = .ok (.invokevirtual 265, 3) := by decide +kernel
theorem dX11_leastLackingSet_102 : decode cX11_leastLackingSet 102 = .ok (.istore 6, 2) := by decide +kernel
theorem dX11_leastLackingSet_104 : decode cX11_leastLackingSet 104 = .ok (.iinc 7 1, 3) := by decide +kernel
theorem dX11_leastLackingSet_107 : decode cX11_leastLackingSet 107 = .ok (.goto (-87), 3) := by decide +kernel
theorem dX11_leastLackingSet_110 : decode cX11_leastLackingSet 110 = .ok (.iload 5, 2) := by decide +kernel
theorem dX11_leastLackingSet_112 : decode cX11_leastLackingSet 112 = .ok (.iconst (-1), 1) := by decide +kernel
theorem dX11_leastLackingSet_113 : decode cX11_leastLackingSet 113 = .ok (.if_icmp .eq 10, 3) := by decide +kernel
theorem dX11_leastLackingSet_116 : decode cX11_leastLackingSet 116 = .ok (.iload_n 3, 1) := by decide +kernel
theorem dX11_leastLackingSet_117 : decode cX11_leastLackingSet 117 = .ok (.iconst 1, 1) := by decide +kernel
theorem dX11_leastLackingSet_118 : decode cX11_leastLackingSet 118 = .ok (.iload 5, 2) := by decide +kernel
theorem dX11_leastLackingSet_120 : decode cX11_leastLackingSet 120 = .ok (.ishl, 1) := by decide +kernel
theorem dX11_leastLackingSet_121 : decode cX11_leastLackingSet 121 = .ok (.ior, 1) := by decide +kernel
theorem dX11_leastLackingSet_122 : decode cX11_leastLackingSet 122 = .ok (.istore_n 3, 1) := by decide +kernel
theorem dX11_leastLackingSet_123 : decode cX11_leastLackingSet 123 = .ok (.iinc 4 1, 3) := by decide +kernel
theorem dX11_leastLackingSet_126 : decode cX11_leastLackingSet 126 = .ok (.goto (-121), 3) := by decide +kernel
theorem dX11_leastLackingSet_129 : decode cX11_leastLackingSet 129 = .ok (.iload_n 3, 1) := by decide +kernel
theorem dX11_leastLackingSet_130 : decode cX11_leastLackingSet 130 = .ok (.ireturn, 1) := by decide +kernel
theorem dX11_lackingOfSet_0 : decode cX11_lackingOfSet 0 = .ok (.iconst 0, 1) := by decide +kernel
theorem dX11_lackingOfSet_1 : decode cX11_lackingOfSet 1 = .ok (.istore_n 2, 1) := by decide +kernel
theorem dX11_lackingOfSet_2 : decode cX11_lackingOfSet 2 = .ok (.iconst 0, 1) := by decide +kernel
theorem dX11_lackingOfSet_3 : decode cX11_lackingOfSet 3 = .ok (.istore_n 3, 1) := by decide +kernel
theorem dX11_lackingOfSet_4 : decode cX11_lackingOfSet 4 = .ok (.iload_n 3, 1) := by decide +kernel
theorem dX11_lackingOfSet_5 : decode cX11_lackingOfSet 5 = .ok (.aload_n 0, 1) := by decide +kernel
theorem dX11_lackingOfSet_6 : decode cX11_lackingOfSet 6 = .ok (.getfield 35, 3) := by decide +kernel
theorem dX11_lackingOfSet_9 : decode cX11_lackingOfSet 9 = .ok (.invokevirtual 103, 3) := by decide +kernel
theorem dX11_lackingOfSet_12 : decode cX11_lackingOfSet 12 = .ok (.if_icmp .ge 35, 3) := by decide +kernel
theorem dX11_lackingOfSet_15 : decode cX11_lackingOfSet 15 = .ok (.iload_n 1, 1) := by decide +kernel
theorem dX11_lackingOfSet_16 : decode cX11_lackingOfSet 16 = .ok (.iload_n 3, 1) := by decide +kernel
theorem dX11_lackingOfSet_17 : decode cX11_lackingOfSet 17 = .ok (.ishr, 1) := by decide +kernel
theorem dX11_lackingOfSet_18 : decode cX11_lackingOfSet 18 = .ok (.iconst 1, 1) := by decide +kernel
theorem dX11_lackingOfSet_19 : decode cX11_lackingOfSet 19 = .ok (.iand, 1) := by decide +kernel
theorem dX11_lackingOfSet_20 : decode cX11_lackingOfSet 20 = .ok (.iconst 1, 1) := by decide +kernel
theorem dX11_lackingOfSet_21 : decode cX11_lackingOfSet 21 = .ok (.if_icmp .ne 20, 3) := by decide +kernel
theorem dX11_lackingOfSet_24 : decode cX11_lackingOfSet 24 = .ok (.iload_n 2, 1) := by decide +kernel
theorem dX11_lackingOfSet_25 : decode cX11_lackingOfSet 25 = .ok (.aload_n 0, 1) := by decide +kernel
theorem dX11_lackingOfSet_26 : decode cX11_lackingOfSet 26 = .ok (.getfield 35, 3) := by decide +kernel
theorem dX11_lackingOfSet_29 : decode cX11_lackingOfSet 29 = .ok (.iload_n 3, 1) := by decide +kernel
theorem dX11_lackingOfSet_30 : decode cX11_lackingOfSet 30 = .ok (.invokevirtual 324, 3) := by decide +kernel
theorem dX11_lackingOfSet_33 : decode cX11_lackingOfSet 33 = .ok (.checkcast 133, 3) := by decide +kernel
theorem dX11_lackingOfSet_36 : decode cX11_lackingOfSet 36 = .ok (.invokevirtual 265, 3) := by decide +kernel
theorem dX11_lackingOfSet_39 : decode cX11_lackingOfSet 39 = .ok (.iadd, 1) := by decide +kernel
theorem dX11_lackingOfSet_40 : decode cX11_lackingOfSet 40 = .ok (.istore_n 2, 1) := by decide +kernel
theorem dX11_lackingOfSet_41 : decode cX11_lackingOfSet 41 = .ok (.iinc 3 1, 3) := by decide +kernel
theorem dX11_lackingOfSet_44 : decode cX11_lackingOfSet 44 = .ok (.goto (-40), 3) := by decide +kernel
theorem dX11_lackingOfSet_47 : decode cX11_lackingOfSet 47 = .ok (.iload_n 2, 1) := by decide +kernel
theorem dX11_lackingOfSet_48 : decode cX11_lackingOfSet 48 = .ok (.ireturn, 1) := by decide +kernel
theorem dX11_isToWash_0 : decode cX11_isToWash 0 = .ok (.aload_n 1, 1) := by decide +kernel
theorem dX11_isToWash_1 : decode cX11_isToWash 1 = .ok (.getfield 264, 3) := by decide +kernel
theorem dX11_isToWash_4 : decode cX11_isToWash 4 = .ok (.ifCond .ne 14, 3) := by decide +kernel
theorem dX11_isToWash_7 : decode cX11_isToWash 7 = .ok (.aload_n 1, 1) := by decide +kernel
theorem dX11_isToWash_8 : decode cX11_isToWash 8 = .ok (.getfield 260, 3) := by decide +kernel
theorem dX11_isToWash_11 : decode cX11_isToWash 11 = .ok (.ifCond .eq 7, 3) := by decide +kernel
theorem dX11_isToWash_14 : decode cX11_isToWash 14 = .ok (.iconst 1, 1) := by decide +kernel
theorem dX11_isToWash_15 : decode cX11_isToWash 15 = .ok (.goto 4, 3) := by decide +kernel
theorem dX11_isToWash_18 : decode cX11_isToWash 18 = .ok (.iconst 0, 1) := by decide +kernel
theorem dX11_isToWash_19 : decode cX11_isToWash 19 = .ok (.ireturn, 1) := by decide +kernel
theorem dX11_washedAhead_0 : decode cX11_washedAhead 0 = .ok (.aload_n 0, 1) := by decide +kernel
theorem dX11_washedAhead_1 : decode cX11_washedAhead 1 = .ok (.aload_n 1, 1) := by decide +kernel
theorem dX11_washedAhead_2 : decode cX11_washedAhead 2 = .ok (.getfield 203, 3) := by decide +kernel
theorem dX11_washedAhead_5 : decode cX11_washedAhead 5 = .ok (.invokevirtual 347, 3) := by decide +kernel
theorem dX11_washedAhead_8 : decode cX11_washedAhead 8 = .ok (.istore_n 2, 1) := by decide +kernel
theorem dX11_washedAhead_9 : decode cX11_washedAhead 9 = .ok (.iconst 0, 1) := by decide +kernel
theorem dX11_washedAhead_10 : decode cX11_washedAhead 10 = .ok (.istore_n 3, 1) := by decide +kernel
theorem dX11_washedAhead_11 : decode cX11_washedAhead 11 = .ok (.iconst 0, 1) := by decide +kernel
theorem dX11_washedAhead_12 : decode cX11_washedAhead 12 = .ok (.istore 4, 2) := by decide +kernel
theorem dX11_washedAhead_14 : decode cX11_washedAhead 14 = .ok (.iload 4, 2) := by decide +kernel
theorem dX11_washedAhead_16 : decode cX11_washedAhead 16 = .ok (.aload_n 0, 1) := by decide +kernel
theorem dX11_washedAhead_17 : decode cX11_washedAhead 17 = .ok (.getfield 35, 3) := by decide +kernel
theorem dX11_washedAhead_20 : decode cX11_washedAhead 20 = .ok (.invokevirtual 103, 3) := by decide +kernel
theorem dX11_washedAhead_23 : decode cX11_washedAhead 23 = .ok (.if_icmp .ge 67, 3) := by decide +kernel
theorem dX11_washedAhead_26 : decode cX11_washedAhead 26 = .ok (.aload_n 0, 1) := by decide +kernel
theorem dX11_washedAhead_27 : decode cX11_washedAhead 27 = .ok (.getfield 35, 3) := by decide +kernel
theorem dX11_washedAhead_30 : decode cX11_washedAhead 30 = .ok (.iload 4, 2) := by decide +kernel
theorem dX11_washedAhead_32 : decode cX11_washedAhead 32 = .ok (.invokevirtual 324, 3) := by decide +kernel
theorem dX11_washedAhead_35 : decode cX11_washedAhead 35 = .ok (.checkcast 133, 3) := by decide +kernel
theorem dX11_washedAhead_38 : decode cX11_washedAhead 38 = .ok (.astore 5, 2) := by decide +kernel
theorem dX11_washedAhead_40 : decode cX11_washedAhead 40 = .ok (.aload_n 0, 1) := by decide +kernel
theorem dX11_washedAhead_41 : decode cX11_washedAhead 41 = .ok (.aload 5, 2) := by decide +kernel
theorem dX11_washedAhead_43 : decode cX11_washedAhead 43 = .ok (.invokevirtual 317, 3) := by decide +kernel
theorem dX11_washedAhead_46 : decode cX11_washedAhead 46 = .ok (.ifCond .eq 38, 3) := by decide +kernel
theorem dX11_washedAhead_49 : decode cX11_washedAhead 49 = .ok (.aload_n 0, 1) := by decide +kernel
theorem dX11_washedAhead_50 : decode cX11_washedAhead 50 = .ok (.aload 5, 2) := by decide +kernel
