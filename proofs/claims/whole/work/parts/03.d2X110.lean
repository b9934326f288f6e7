theorem dX11_init_0 : decode cX11_init 0 = .ok (.aload_n 0, 1) := by decide +kernel
theorem dX11_init_1 : decode cX11_init 1 = .ok (.invokespecial 1, 3) := by decide +kernel
theorem dX11_init_4 : decode cX11_init 4 = .ok (.aload_n 0, 1) := by decide +kernel
theorem dX11_init_5 : decode cX11_init 5 = .ok (.sipush 220, 3) := by decide +kernel
theorem dX11_init_8 : decode cX11_init 8 = .ok (.newarray .int, 2) := by decide +kernel
theorem dX11_init_10 : decode cX11_init 10 = .ok (.putfield 9, 3) := by decide +kernel
theorem dX11_init_13 : decode cX11_init 13 = .ok (.aload_n 0, 1) := by decide +kernel
theorem dX11_init_14 : decode cX11_init 14 = .ok (.bipush 6, 2) := by decide +kernel
theorem dX11_init_16 : decode cX11_init 16 = .ok (.newarray .int, 2) := by decide +kernel
theorem dX11_init_18 : decode cX11_init 18 = .ok (.putfield 13, 3) := by decide +kernel
theorem dX11_init_21 : decode cX11_init 21 = .ok (.aload_n 0, 1) := by decide +kernel
theorem dX11_init_22 : decode cX11_init 22 = .ok (.getfield 13, 3) := by decide +kernel
theorem dX11_init_25 : decode cX11_init 25 = .ok (.bipush 10, 2) := by decide +kernel
theorem dX11_init_27 : decode cX11_init 27 = .ok (.invokestatic 16, 3) := by decide +kernel
theorem dX11_init_30 : decode cX11_init 30 = .ok (.aload_n 0, 1) := by decide +kernel
theorem dX11_init_31 : decode cX11_init 31 = .ok (.bipush 53, 2) := by decide +kernel
theorem dX11_init_33 : decode cX11_init 33 = .ok (.newarray .int, 2) := by decide +kernel
theorem dX11_init_35 : decode cX11_init 35 = .ok (.putfield 22, 3) := by decide +kernel
theorem dX11_init_38 : decode cX11_init 38 = .ok (.aload_n 0, 1) := by decide +kernel
theorem dX11_init_39 : decode cX11_init 39 = .ok (.iconst 4, 1) := by decide +kernel
theorem dX11_init_40 : decode cX11_init 40 = .ok (.newarray .int, 2) := by decide +kernel
theorem dX11_init_42 : decode cX11_init 42 = .ok (.putfield 25, 3) := by decide +kernel
theorem dX11_init_45 : decode cX11_init 45 = .ok (.aload_n 0, 1) := by decide +kernel
theorem dX11_init_46 : decode cX11_init 46 = .ok (.new 28, 3) := by decide +kernel
theorem dX11_init_49 : decode cX11_init 49 = .ok (.dup, 1) := by decide +kernel
theorem dX11_init_50 : decode cX11_init 50 = .ok (.invokespecial 30, 3) := by decide +kernel
theorem dX11_init_53 : decode cX11_init 53 = .ok (.putfield 31, 3) := by decide +kernel
theorem dX11_init_56 : decode cX11_init 56 = .ok (.aload_n 0, 1) := by decide +kernel
theorem dX11_init_57 : decode cX11_init 57 = .ok (.new 28, 3) := by decide +kernel
theorem dX11_init_60 : decode cX11_init 60 = .ok (.dup, 1) := by decide +kernel
theorem dX11_init_61 : decode cX11_init 61 = .ok (.invokespecial 30, 3) := by decide +kernel
theorem dX11_init_64 : decode cX11_init 64 = .ok (.putfield 35, 3) := by decide +kernel
theorem dX11_init_67 : decode cX11_init 67 = .ok (.aload_n 0, 1) := by decide +kernel
theorem dX11_init_68 : decode cX11_init 68 = .ok (.new 28, 3) := by decide +kernel
theorem dX11_init_71 : decode cX11_init 71 = .ok (.dup, 1) := by decide +kernel
theorem dX11_init_72 : decode cX11_init 72 = .ok (.invokespecial 30, 3) := by decide +kernel
theorem dX11_init_75 : decode cX11_init 75 = .ok (.putfield 38, 3) := by decide +kernel
theorem dX11_init_78 : decode cX11_init 78 = .ok (.aload_n 0, 1) := by decide +kernel
theorem dX11_init_79 : decode cX11_init 79 = .ok (.new 28, 3) := by decide +kernel
theorem dX11_init_82 : decode cX11_init 82 = .ok (.dup, 1) := by decide +kernel
theorem dX11_init_83 : decode cX11_init 83 = .ok (.invokespecial 30, 3) := by decide +kernel
theorem dX11_init_86 : decode cX11_init 86 = .ok (.putfield 41, 3) := by decide +kernel
theorem dX11_init_89 : decode cX11_init 89 = .ok (.aload_n 0, 1) := by decide +kernel
theorem dX11_init_90 : decode cX11_init 90 = .ok (.new 44, 3) := by decide +kernel
theorem dX11_init_93 : decode cX11_init 93 = .ok (.dup, 1) := by decide +kernel
theorem dX11_init_94 : decode cX11_init 94 = .ok (.invokespecial 46, 3) := by decide +kernel
theorem dX11_init_97 : decode cX11_init 97 = .ok (.putfield 47, 3) := by decide +kernel
theorem dX11_init_100 : decode cX11_init 100 = .ok (.aload_n 0, 1) := by decide +kernel
theorem dX11_init_101 : decode cX11_init 101 = .ok (.new 51, 3) := by decide +kernel
theorem dX11_init_104 : decode cX11_init 104 = .ok (.dup, 1) := by decide +kernel
theorem dX11_init_105 : decode cX11_init 105 = .ok (.new 44, 3) := by decide +kernel
theorem dX11_init_108 : decode cX11_init 108 = .ok (.dup, 1) := by decide +kernel
theorem dX11_init_109 : decode cX11_init 109 = .ok (.invokespecial 46, 3) := by decide +kernel
theorem dX11_init_112 : decode cX11_init 112 = .ok (.invokespecial 53, 3) := by decide +kernel
theorem dX11_init_115 : decode cX11_init 115 = .ok (.putfield 56, 3) := by decide +kernel
theorem dX11_init_118 : decode cX11_init 118 = .ok (.aload_n 0, 1) := by decide +kernel
theorem dX11_init_119 : decode cX11_init 119 = .ok (.new 60, 3) := by decide +kernel
theorem dX11_init_122 : decode cX11_init 122 = .ok (.dup, 1) := by decide +kernel
theorem dX11_init_123 : decode cX11_init 123 = .ok (.invokespecial 62, 3) := by decide +kernel
theorem dX11_init_126 : decode cX11_init 126 = .ok (.putfield 63, 3) := by decide +kernel
theorem dX11_init_129 : decode cX11_init 129 = .ok (.aload_n 0, 1) := by decide +kernel
theorem dX11_init_130 : decode cX11_init 130 = .ok (.new 67, 3) := by decide +kernel
theorem dX11_init_133 : decode cX11_init 133 = .ok (.dup, 1) := by decide +kernel
theorem dX11_init_134 : decode cX11_init 134 = .ok (.invokespecial 69, 3) := by decide +kernel
theorem dX11_init_137 : decode cX11_init 137 = .ok (.putfield 70, 3) := by decide +kernel
theorem dX11_init_140 : decode cX11_init 140 = .ok (.aload_n 0, 1) := by decide +kernel
theorem dX11_init_141 : decode cX11_init 141 = .ok (.new 74, 3) := by decide +kernel
theorem dX11_init_144 : decode cX11_init 144 = .ok (.dup, 1) := by decide +kernel
theorem dX11_init_145 : decode cX11_init 145 = .ok (.invokespecial 76, 3) := by decide +kernel
theorem dX11_init_148 : decode cX11_init 148 = .ok (.putfield 77, 3) := by decide +kernel
theorem dX11_init_151 : decode cX11_init 151 = .ok (.aload_n 0, 1) := by decide +kernel
theorem dX11_init_152 : decode cX11_init 152 = .ok (.new 81, 3) := by decide +kernel
theorem dX11_init_155 : decode cX11_init 155 = .ok (.dup, 1) := by decide +kernel
theorem dX11_init_156 : decode cX11_init 156 = .ok (.invokespecial 83, 3) := by decide +kernel
theorem dX11_init_159 : decode cX11_init 159 = .ok (.putfield 84, 3) := by decide +kernel
theorem dX11_init_162 : decode cX11_init 162 = .ok (.aload_n 0, 1) := by decide +kernel
theorem dX11_init_163 : decode cX11_init 163 = .ok (.new 88, 3) := by decide +kernel
theorem dX11_init_166 : decode cX11_init 166 = .ok (.dup, 1) := by decide +kernel
theorem dX11_init_167 : decode cX11_init 167 = .ok (.invokespecial 90, 3) := by decide +kernel
theorem dX11_init_170 : decode cX11_init 170 = .ok (.putfield 91, 3) := by decide +kernel
theorem dX11_init_173 : decode cX11_init 173 = .ok (.return_, 1) := by decide +kernel
theorem dX11_now_0 : decode cX11_now 0 = .ok (.iload_n 1, 1) := by decide +kernel
theorem dX11_now_1 : decode cX11_now 1 = .ok (.aload_n 0, 1) := by decide +kernel
theorem dX11_now_2 : decode cX11_now 2 = .ok (.getfield 95, 3) := by decide +kernel
theorem dX11_now_5 : decode cX11_now 5 = .ok (.if_icmp .lt 10, 3) := by decide +kernel
theorem dX11_now_8 : decode cX11_now 8 = .ok (.iload_n 1, 1) := by decide +kernel
theorem dX11_now_9 : decode cX11_now 9 = .ok (.sipush 699, 3) := by decide +kernel
theorem dX11_now_12 : decode cX11_now 12 = .ok (.if_icmp .le 5, 3) := by decide +kernel
theorem dX11_now_15 : decode cX11_now 15 = .ok (.iconst 0, 1) := by decide +kernel
theorem dX11_now_16 : decode cX11_now 16 = .ok (.ireturn, 1) := by decide +kernel
theorem dX11_now_17 : decode cX11_now 17 = .ok (.aload_n 0, 1) := by decide +kernel
theorem dX11_now_18 : decode cX11_now 18 = .ok (.iload_n 1, 1) := by decide +kernel
theorem dX11_now_19 : decode cX11_now 19 = .ok (.putfield 95, 3) := by decide +kernel
theorem dX11_now_22 : decode cX11_now 22 = .ok (.iconst 1, 1) := by decide +kernel
theorem dX11_now_23 : decode cX11_now 23 = .ok (.ireturn, 1) := by decide +kernel
theorem dX11_kind_0 : decode cX11_kind 0 = .ok (.iload_n 1, 1) := by decide +kernel
theorem dX11_kind_1 : decode cX11_kind 1 = .ok (.iconst 0, 1) := by decide +kernel
theorem dX11_kind_2 : decode cX11_kind 2 = .ok (.bipush 15, 2) := by decide +kernel
theorem dX11_kind_4 : decode cX11_kind 4 = .ok (.invokestatic 99, 3) := by decide +kernel
theorem dX11_kind_7 : decode cX11_kind 7 = .ok (.ifCond .eq 50, 3) := by decide +kernel
theorem dX11_kind_10 : decode cX11_kind 10 = .ok (.iload_n 2, 1) := by decide +kernel
theorem dX11_kind_11 : decode cX11_kind 11 = .ok (.iconst 1, 1) := by decide +kernel
theorem dX11_kind_12 : decode cX11_kind 12 = .ok (.sipush 20000, 3) := by decide +kernel
theorem dX11_kind_15 : decode cX11_kind 15 = .ok (.invokestatic 99, 3) := by decide +kernel
theorem dX11_kind_18 : decode cX11_kind 18 = .ok (.ifCond .eq 39, 3) := by decide +kernel
theorem dX11_kind_21 : decode cX11_kind 21 = .ok (.iload_n 3, 1) := by decide +kernel
theorem dX11_kind_22 : decode cX11_kind 22 = .ok (.iconst 0, 1) := by decide +kernel
theorem dX11_kind_23 : decode cX11_kind 23 = .ok (.bipush 9, 2) := by decide +kernel
theorem dX11_kind_25 : decode cX11_kind 25 = .ok (.invokestatic 99, 3) := by decide +kernel
theorem dX11_kind_28 : decode cX11_kind 28 = .ok (.ifCond .eq 29, 3) := by decide +kernel
theorem dX11_kind_31 : decode cX11_kind 31 = .ok (.iload 4, 2) := by decide +kernel
theorem dX11_kind_33 : decode cX11_kind 33 = .ok (.iconst 0, 1) := by decide +kernel
theorem dX11_kind_34 : decode cX11_kind 34 = .ok (.iconst 5, 1) := by decide +kernel
theorem dX11_kind_35 : decode cX11_kind 35 = .ok (.invokestatic 99, 3) := by decide +kernel
theorem dX11_kind_38 : decode cX11_kind 38 = .ok (.ifCond .eq 19, 3) := by decide +kernel
theorem dX11_kind_41 : decode cX11_kind 41 = .ok (.iload 5, 2) := by decide +kernel
theorem dX11_kind_43 : decode cX11_kind 43 = .ok (.iconst 1, 1) := by decide +kernel
theorem dX11_kind_44 : decode cX11_kind 44 = .ok (.sipush 1000, 3) := by decide +kernel
theorem dX11_kind_47 : decode cX11_kind 47 = .ok (.invokestatic 99, 3) := by decide +kernel
theorem dX11_kind_50 : decode cX11_kind 50 = .ok (.ifCond .eq 7, 3) := by decide +kernel
theorem dX11_kind_53 : decode cX11_kind 53 = .ok (.iconst 1, 1) := by decide +kernel
theorem dX11_kind_54 : decode cX11_kind 54 = .ok (.goto 4, 3) := by decide +kernel
theorem dX11_kind_57 : decode cX11_kind 57 = .ok (.iconst 0, 1) := by decide +kernel
theorem dX11_kind_58 : decode cX11_kind 58 = .ok (.istore 6, 2) := by decide +kernel
theorem dX11_kind_60 : decode cX11_kind 60 = .ok (.iload 6, 2) := by decide +kernel
theorem dX11_kind_62 : decode cX11_kind 62 = .ok (.ifCond .eq 15, 3) := by decide +kernel
theorem dX11_kind_65 : decode cX11_kind 65 = .ok (.aload_n 0, 1) := by decide +kernel
theorem dX11_kind_66 : decode cX11_kind 66 = .ok (.getfield 31, 3) := by decide +kernel
theorem dX11_kind_69 : decode cX11_kind 69 = .ok (.invokevirtual 103, 3) := by decide +kernel
theorem dX11_kind_72 : decode cX11_kind 72 = .ok (.bipush 8, 2) := by decide +kernel
theorem dX11_kind_74 : decode cX11_kind 74 = .ok (.if_icmp .lt 5, 3) := by decide +kernel
theorem dX11_kind_77 : decode cX11_kind 77 = .ok (.iconst (-1), 1) := by decide +kernel
theorem dX11_kind_78 : decode cX11_kind 78 = .ok (.ireturn, 1) := by decide +kernel
theorem dX11_kind_79 : decode cX11_kind 79 = .ok (.new 107, 3) := by decide +kernel
theorem dX11_kind_82 : decode cX11_kind 82 = .ok (.dup, 1) := by decide +kernel
theorem dX11_kind_83 : decode cX11_kind 83 = .ok (.aload_n 0, 1) := by decide +kernel
theorem dX11_kind_84 : decode cX11_kind 84 = .ok (.getfield 31, 3) := by decide +kernel
theorem dX11_kind_87 : decode cX11_kind 87 = .ok (.invokevirtual 103, 3) := by decide +kernel
theorem dX11_kind_90 : decode cX11_kind 90 = .ok (.iload_n 1, 1) := by decide +kernel
theorem dX11_kind_91 : decode cX11_kind 91 = .ok (.iload_n 2, 1) := by decide +kernel
theorem dX11_kind_92 : decode cX11_kind 92 = .ok (.iload_n 3, 1) := by decide +kernel
theorem dX11_kind_93 : decode cX11_kind 93 = .ok (.iload 4, 2) := by decide +kernel
theorem dX11_kind_95 : decode cX11_kind 95 = .ok (.iload 5, 2) := by decide +kernel
theorem dX11_kind_97 : decode cX11_kind 97 = .ok (.invokespecial 109, 3) := by decide +kernel
theorem dX11_kind_100 : decode cX11_kind 100 = .ok (.astore 7, 2) := by decide +kernel
theorem dX11_kind_102 : decode cX11_kind 102 = .ok (.aload_n 0, 1) := by decide +kernel
theorem dX11_kind_103 : decode cX11_kind 103 = .ok (.getfield 31, 3) := by decide +kernel
theorem dX11_kind_106 : decode cX11_kind 106 = .ok (.aload 7, 2) := by decide +kernel
theorem dX11_kind_108 : decode cX11_kind 108 = .ok (.invokevirtual 112, 3) := by decide +kernel
theorem dX11_kind_111 : decode cX11_kind 111 = .ok (.pop, 1) := by decide +kernel
theorem dX11_kind_112 : decode cX11_kind 112 = .ok (.aload 7, 2) := by decide +kernel
theorem dX11_kind_114 : decode cX11_kind 114 = .ok (.getfield 116, 3) := by decide +kernel
theorem dX11_kind_117 : decode cX11_kind 117 = .ok (.ireturn, 1) := by decide +kernel
theorem dX11_pieces_0 : decode cX11_pieces 0 = .ok (.aload_n 0, 1) := by decide +kernel
theorem dX11_pieces_1 : decode cX11_pieces 1 = .ok (.iload_n 1, 1) := by decide +kernel
theorem dX11_pieces_2 : decode cX11_pieces 2 = .ok (.invokevirtual 119, 3) := by decide +kernel
theorem dX11_pieces_5 : decode cX11_pieces 5 = .ok (.astore 5, 2) := by decide +kernel
theorem dX11_pieces_7 : decode cX11_pieces 7 = .ok (.aload 5, 2) := by decide +kernel
theorem dX11_pieces_9 : decode cX11_pieces 9 = .ok (.ifnull 34, 3) := by decide +kernel
theorem dX11_pieces_12 : decode cX11_pieces 12 = .ok (.iload_n 2, 1) := by decide +kernel
theorem dX11_pieces_13 : decode cX11_pieces 13 = .ok (.iconst 0, 1) := by decide +kernel
theorem dX11_pieces_14 : decode cX11_pieces 14 = .ok (.iconst 5, 1) := by decide +kernel
theorem dX11_pieces_15 : decode cX11_pieces 15 = .ok (.invokestatic 99, 3) := by decide +kernel
theorem dX11_pieces_18 : decode cX11_pieces 18 = .ok (.ifCond .eq 25, 3) := by decide +kernel
theorem dX11_pieces_21 : decode cX11_pieces 21 = .ok (.iload_n 3, 1) := by decide +kernel
theorem dX11_pieces_22 : decode cX11_pieces 22 = .ok (.iconst 0, 1) := by decide +kernel
theorem dX11_pieces_23 : decode cX11_pieces 23 = .ok (.bipush 6, 2) := by decide +kernel
theorem dX11_pieces_25 : decode cX11_pieces 25 = .ok (.invokestatic 99, 3) := by decide +kernel
theorem dX11_pieces_28 : decode cX11_pieces 28 = .ok (.ifCond .eq 15, 3) := by decide +kernel
theorem dX11_pieces_31 : decode cX11_pieces 31 = .ok (.iload 4, 2) := by decide +kernel
theorem dX11_pieces_33 : decode cX11_pieces 33 = .ok (.iconst 1, 1) := by decide +kernel
theorem dX11_pieces_34 : decode cX11_pieces 34 = .ok (.sipush 400, 3) := by decide +kernel
theorem dX11_pieces_37 : decode cX11_pieces 37 = .ok (.invokestatic 99, 3) := by decide +kernel
theorem dX11_pieces_40 : decode cX11_pieces 40 = .ok (.ifCond .ne 5, 3) := by decide +kernel
theorem dX11_pieces_43 : decode cX11_pieces 43 = .ok (.iconst 0, 1) := by decide +kernel
theorem dX11_pieces_44 : decode cX11_pieces 44 = .ok (.ireturn, 1) := by decide +kernel
theorem dX11_pieces_45 : decode cX11_pieces 45 = .ok (.aload_n 0, 1) := by decide +kernel
theorem dX11_pieces_46 : decode cX11_pieces 46 = .ok (.aload 5, 2) := by decide +kernel
theorem dX11_pieces_48 : decode cX11_pieces 48 = .ok (.invokevirtual 123, 3) := by decide +kernel
theorem dX11_pieces_51 : decode cX11_pieces 51 = .ok (.ifCond .eq 5, 3) := by decide +kernel
theorem dX11_pieces_54 : decode cX11_pieces 54 = .ok (.iconst 0, 1) := by decide +kernel
theorem dX11_pieces_55 : decode cX11_pieces 55 = .ok (.ireturn, 1) := by decide +kernel
theorem dX11_pieces_56 : decode cX11_pieces 56 = .ok (.aload 5, 2) := by decide +kernel
theorem dX11_pieces_58 : decode cX11_pieces 58 = .ok (.getfield 127, 3) := by decide +kernel
theorem dX11_pieces_61 : decode cX11_pieces 61 = .ok (.iload_n 2, 1) := by decide +kernel
theorem dX11_pieces_62 : decode cX11_pieces 62 = .ok (.iload_n 3, 1) := by decide +kernel
theorem dX11_pieces_63 : decode cX11_pieces 63 = .ok (.iastore, 1) := by decide +kernel
theorem dX11_pieces_64 : decode cX11_pieces 64 = .ok (.aload 5, 2) := by decide +kernel
theorem dX11_pieces_66 : decode cX11_pieces 66 = .ok (.getfield 130, 3) := by decide +kernel
theorem dX11_pieces_69 : decode cX11_pieces 69 = .ok (.iload_n 2, 1) := by decide +kernel
theorem dX11_pieces_70 : decode cX11_pieces 70 = .ok (.iload 4, 2) := by decide +kernel
theorem dX11_pieces_72 : decode cX11_pieces 72 = .ok (.iastore, 1) := by decide +kernel
theorem dX11_pieces_73 : decode cX11_pieces 73 = .ok (.iconst 1, 1) := by decide +kernel
theorem dX11_pieces_74 : decode cX11_pieces 74 = .ok (.ireturn, 1) := by decide +kernel
theorem dX11_toy_0 : decode cX11_toy 0 = .ok (.aload_n 0, 1) := by decide +kernel
theorem dX11_toy_1 : decode cX11_toy 1 = .ok (.iload_n 1, 1) := by decide +kernel
theorem dX11_toy_2 : decode cX11_toy 2 = .ok (.invokevirtual 119, 3) := by decide +kernel
theorem dX11_toy_5 : decode cX11_toy 5 = .ok (.astore_n 3, 1) := by decide +kernel
theorem dX11_toy_6 : decode cX11_toy 6 = .ok (.aload_n 3, 1) := by decide +kernel
theorem dX11_toy_7 : decode cX11_toy 7 = .ok (.ifnull 25, 3) := by decide +kernel
theorem dX11_toy_10 : decode cX11_toy 10 = .ok (.iload_n 2, 1) := by decide +kernel
theorem dX11_toy_11 : decode cX11_toy 11 = .ok (.iconst 0, 1) := by decide +kernel
theorem dX11_toy_12 : decode cX11_toy 12 = .ok (.bipush 99, 2) := by decide +kernel
theorem dX11_toy_14 : decode cX11_toy 14 = .ok (.invokestatic 99, 3) := by decide +kernel
theorem dX11_toy_17 : decode cX11_toy 17 = .ok (.ifCond .eq 15, 3) := by decide +kernel
theorem dX11_toy_20 : decode cX11_toy 20 = .ok (.aload_n 0, 1) := by decide +kernel
theorem dX11_toy_21 : decode cX11_toy 21 = .ok (.getfield 35, 3) := by decide +kernel
theorem dX11_toy_24 : decode cX11_toy 24 = .ok (.invokevirtual 103, 3) := by decide +kernel
theorem dX11_toy_27 : decode cX11_toy 27 = .ok (.bipush 16, 2) := by decide +kernel
theorem dX11_toy_29 : decode cX11_toy 29 = .ok (.if_icmp .lt 5, 3) := by decide +kernel
theorem dX11_toy_32 : decode cX11_toy 32 = .ok (.iconst (-1), 1) := by decide +kernel
theorem dX11_toy_33 : decode cX11_toy 33 = .ok (.ireturn, 1) := by decide +kernel
theorem dX11_toy_34 : decode cX11_toy 34 = .ok (.new 133, 3) := by decide +kernel
theorem dX11_toy_37 : decode cX11_toy 37 = .ok (.dup, 1) := by decide +kernel
theorem dX11_toy_38 : decode cX11_toy 38 = .ok (.aload_n 0, 1) := by decide +kernel
theorem dX11_toy_39 : decode cX11_toy 39 = .ok (.getfield 35, 3) := by decide +kernel
theorem dX11_toy_42 : decode cX11_toy 42 = .ok (.invokevirtual 103, 3) := by decide +kernel
theorem dX11_toy_45 : decode cX11_toy 45 = .ok (.aload_n 3, 1) := by decide +kernel
theorem dX11_toy_46 : decode cX11_toy 46 = .ok (.iload_n 2, 1) := by decide +kernel
theorem dX11_toy_47 : decode cX11_toy 47 = .ok (.aload_n 0, 1) := by decide +kernel
theorem dX11_toy_48 : decode cX11_toy 48 = .ok (.getfield 95, 3) := by decide +kernel
theorem dX11_toy_51 : decode cX11_toy 51 = .ok (.invokespecial 135, 3) := by decide +kernel
theorem dX11_toy_54 : decode cX11_toy 54 = .ok (.astore 4, 2) := by decide +kernel
theorem dX11_toy_56 : decode cX11_toy 56 = .ok (.aload_n 0, 1) := by decide +kernel
theorem dX11_toy_57 : decode cX11_toy 57 = .ok (.getfield 35, 3) := by decide +kernel
theorem dX11_toy_60 : decode cX11_toy 60 = .ok (.aload 4, 2) := by decide +kernel
theorem dX11_toy_62 : decode cX11_toy 62 = .ok (.invokevirtual 112, 3) := by decide +kernel
theorem dX11_toy_65 : decode cX11_toy 65 = .ok (.pop, 1) := by decide +kernel
theorem dX11_toy_66 : decode cX11_toy 66 = .ok (.aload 4, 2) := by decide +kernel
theorem dX11_toy_68 : decode cX11_toy 68 = .ok (.getfield 138, 3) := by decide +kernel
theorem dX11_toy_71 : decode cX11_toy 71 = .ok (.ireturn, 1) := by decide +kernel
theorem dX11_family_0 : decode cX11_family 0 = .ok (.iload_n 1, 1) := by decide +kernel
theorem dX11_family_1 : decode cX11_family 1 = .ok (.iconst 0, 1) := by decide +kernel
theorem dX11_family_2 : decode cX11_family 2 = .ok (.bipush 15, 2) := by decide +kernel
theorem dX11_family_4 : decode cX11_family 4 = .ok (.invokestatic 99, 3) := by decide +kernel
theorem dX11_family_7 : decode cX11_family 7 = .ok (.ifCond .eq 26, 3) := by decide +kernel
theorem dX11_family_10 : decode cX11_family 10 = .ok (.iload_n 2, 1) := by decide +kernel
theorem dX11_family_11 : decode cX11_family 11 = .ok (.iconst 0, 1) := by decide +kernel
theorem dX11_family_12 : decode cX11_family 12 = .ok (.bipush 9, 2) := by decide +kernel
theorem dX11_family_14 : decode cX11_family 14 = .ok (.invokestatic 99, 3) := by decide +kernel
theorem dX11_family_17 : decode cX11_family 17 = .ok (.ifCond .eq 16, 3) := by decide +kernel
theorem dX11_family_20 : decode cX11_family 20 = .ok (.iload_n 3, 1) := by decide +kernel
theorem dX11_family_21 : decode cX11_family 21 = .ok (.iconst 0, 1) := by decide +kernel
theorem dX11_family_22 : decode cX11_family 22 = .ok (.iconst 4, 1) := by decide +kernel
theorem dX11_family_23 : decode cX11_family 23 = .ok (.invokestatic 99, 3) := by decide +kernel
theorem dX11_family_26 : decode cX11_family 26 = .ok (.ifCond .eq 7, 3) := by decide +kernel
theorem dX11_family_29 : decode cX11_family 29 = .ok (.iconst 1, 1) := by decide +kernel
theorem dX11_family_30 : decode cX11_family 30 = .ok (.goto 4, 3) := by decide +kernel
theorem dX11_family_33 : decode cX11_family 33 = .ok (.iconst 0, 1) := by decide +kernel
theorem dX11_family_34 : decode cX11_family 34 = .ok (.istore 4, 2) := by decide +kernel
theorem dX11_family_36 : decode cX11_family 36 = .ok (.iload 4, 2) := by decide +kernel
theorem dX11_family_38 : decode cX11_family 38 = .ok (.ifCond .eq 15, 3) := by decide +kernel
theorem dX11_family_41 : decode cX11_family 41 = .ok (.aload_n 0, 1) := by decide +kernel
theorem dX11_family_42 : decode cX11_family 42 = .ok (.getfield 38, 3) := by decide +kernel
theorem dX11_family_45 : decode cX11_family 45 = .ok (.invokevirtual 103, 3) := by decide +kernel
theorem dX11_family_48 : decode cX11_family 48 = .ok (.bipush 10, 2) := by decide +kernel
theorem dX11_family_50 : decode cX11_family 50 = .ok (.if_icmp .lt 5, 3) := by decide +kernel
theorem dX11_family_53 : decode cX11_family 53 = .ok (.iconst (-1), 1) := by decide +kernel
theorem dX11_family_54 : decode cX11_family 54 = .ok (.ireturn, 1) := by decide +kernel
theorem dX11_family_55 : decode cX11_family 55 = .ok (.new 139, 3) := by decide +kernel
theorem dX11_family_58 : decode cX11_family 58 = .ok (.dup, 1) := by decide +kernel
theorem dX11_family_59 : decode cX11_family 59 = .ok (.aload_n 0, 1) := by decide +kernel
theorem dX11_family_60 : decode cX11_family 60 = .ok (.getfield 38, 3) := by decide +kernel
theorem dX11_family_63 : decode cX11_family 63 = .ok (.invokevirtual 103, 3) := by decide +kernel
theorem dX11_family_66 : decode cX11_family 66 = .ok (.iload_n 1, 1) := by decide +kernel
theorem dX11_family_67 : decode cX11_family 67 = .ok (.iload_n 2, 1) := by decide +kernel
theorem dX11_family_68 : decode cX11_family 68 = .ok (.iload_n 3, 1) := by decide +kernel
theorem dX11_family_69 : decode cX11_family 69 = .ok (.invokespecial 141, 3) := by decide +kernel
theorem dX11_family_72 : decode cX11_family 72 = .ok (.astore 5, 2) := by decide +kernel
theorem dX11_family_74 : decode cX11_family 74 = .ok (.aload_n 0, 1) := by decide +kernel
theorem dX11_family_75 : decode cX11_family 75 = .ok (.getfield 38, 3) := by decide +kernel
theorem dX11_family_78 : decode cX11_family 78 = .ok (.aload 5, 2) := by decide +kernel
theorem dX11_family_80 : decode cX11_family 80 = .ok (.invokevirtual 112, 3) := by decide +kernel
theorem dX11_family_83 : decode cX11_family 83 = .ok (.pop, 1) := by decide +kernel
theorem dX11_family_84 : decode cX11_family 84 = .ok (.aload 5, 2) := by decide +kernel
theorem dX11_family_86 : decode cX11_family 86 = .ok (.getfield 144, 3) := by decide +kernel
theorem dX11_family_89 : decode cX11_family 89 = .ok (.ireturn, 1) := by decide +kernel
theorem dX11_bag_0 : decode cX11_bag 0 = .ok (.iload_n 1, 1) := by decide +kernel
theorem dX11_bag_1 : decode cX11_bag 1 = .ok (.iconst 0, 1) := by decide +kernel
theorem dX11_bag_2 : decode cX11_bag 2 = .ok (.sipush 2000, 3) := by decide +kernel
theorem dX11_bag_5 : decode cX11_bag 5 = .ok (.invokestatic 99, 3) := by decide +kernel
theorem dX11_bag_8 : decode cX11_bag 8 = .ok (.ifCond .ne 5, 3) := by decide +kernel
theorem dX11_bag_11 : decode cX11_bag 11 = .ok (.iconst 0, 1) := by decide +kernel
theorem dX11_bag_12 : decode cX11_bag 12 = .ok (.ireturn, 1) := by decide +kernel
theorem dX11_bag_13 : decode cX11_bag 13 = .ok (.aload_n 0, 1) := by decide +kernel
theorem dX11_bag_14 : decode cX11_bag 14 = .ok (.iload_n 1, 1) := by decide +kernel
theorem dX11_bag_15 : decode cX11_bag 15 = .ok (.putfield 145, 3) := by decide +kernel
theorem dX11_bag_18 : decode cX11_bag 18 = .ok (.iconst 1, 1) := by decide +kernel
theorem dX11_bag_19 : decode cX11_bag 19 = .ok (.ireturn, 1) := by decide +kernel
theorem dX11_telling_0 : decode cX11_telling 0 = .ok (.iload_n 1, 1) := by decide +kernel
theorem dX11_telling_1 : decode cX11_telling 1 = .ok (.iconst 0, 1) := by decide +kernel
theorem dX11_telling_2 : decode cX11_telling 2 = .ok (.bipush 30, 2) := by decide +kernel
theorem dX11_telling_4 : decode cX11_telling 4 = .ok (.invokestatic 99, 3) := by decide +kernel
theorem dX11_telling_7 : decode cX11_telling 7 = .ok (.ifCond .ne 5, 3) := by decide +kernel
theorem dX11_telling_10 : decode cX11_telling 10 = .ok (.iconst 0, 1) := by decide +kernel
theorem dX11_telling_11 : decode cX11_telling 11 = .ok (.ireturn, 1) := by decide +kernel
theorem dX11_telling_12 : decode cX11_telling 12 = .ok (.aload_n 0, 1) := by decide +kernel
theorem dX11_telling_13 : decode cX11_telling 13 = .ok (.iload_n 1, 1) := by decide +kernel
theorem dX11_telling_14 : decode cX11_telling 14 = .ok (.putfield 148, 3) := by decide +kernel
theorem dX11_telling_17 : decode cX11_telling 17 = .ok (.iconst 1, 1) := by decide +kernel
theorem dX11_telling_18 : decode cX11_telling 18 = .ok (.ireturn, 1) := by decide +kernel
theorem dX11_minutes_0 : decode cX11_minutes 0 = .ok (.iload_n 1, 1) := by decide +kernel
theorem dX11_minutes_1 : decode cX11_minutes 1 = .ok (.iconst 0, 1) := by decide +kernel
theorem dX11_minutes_2 : decode cX11_minutes 2 = .ok (.iconst 5, 1) := by decide +kernel
theorem dX11_minutes_3 : decode cX11_minutes 3 = .ok (.invokestatic 99, 3) := by decide +kernel
theorem dX11_minutes_6 : decode cX11_minutes 6 = .ok (.ifCond .eq 14, 3) := by decide +kernel
theorem dX11_minutes_9 : decode cX11_minutes 9 = .ok (.iload_n 2, 1) := by decide +kernel
theorem dX11_minutes_10 : decode cX11_minutes 10 = .ok (.iconst 0, 1) := by decide +kernel
theorem dX11_minutes_11 : decode cX11_minutes 11 = .ok (.sipush 600, 3) := by decide +kernel
theorem dX11_minutes_14 : decode cX11_minutes 14 = .ok (.invokestatic 99, 3) := by decide +kernel
theorem dX11_minutes_17 : decode cX11_minutes 17 = .ok (.ifCond .ne 5, 3) := by decide +kernel
theorem dX11_minutes_20 : decode cX11_minutes 20 = .ok (.iconst 0, 1) := by decide +kernel
theorem dX11_minutes_21 : decode cX11_minutes 21 = .ok (.ireturn, 1) := by decide +kernel
theorem dX11_minutes_22 : decode cX11_minutes 22 = .ok (.aload_n 0, 1) := by decide +kernel
theorem dX11_minutes_23 : decode cX11_minutes 23 = .ok (.getfield 13, 3) := by decide +kernel
theorem dX11_minutes_26 : decode cX11_minutes 26 = .ok (.iload_n 1, 1) := by decide +kernel
theorem dX11_minutes_27 : decode cX11_minutes 27 = .ok (.iload_n 2, 1) := by decide +kernel
theorem dX11_minutes_28 : decode cX11_minutes 28 = .ok (.iastore, 1) := by decide +kernel
theorem dX11_minutes_29 : decode cX11_minutes 29 = .ok (.iconst 1, 1) := by decide +kernel
theorem dX11_minutes_30 : decode cX11_minutes 30 = .ok (.ireturn, 1) := by decide +kernel
theorem dX11_gift_0 : decode cX11_gift 0 = .ok (.aload_n 0, 1) := by decide +kernel
theorem dX11_gift_1 : decode cX11_gift 1 = .ok (.iload_n 1, 1) := by decide +kernel
theorem dX11_gift_2 : decode cX11_gift 2 = .ok (.invokevirtual 151, 3) := by decide +kernel
theorem dX11_gift_5 : decode cX11_gift 5 = .ok (.astore 4, 2) := by decide +kernel
theorem dX11_gift_7 : decode cX11_gift 7 = .ok (.aload 4, 2) := by decide +kernel
theorem dX11_gift_9 : decode cX11_gift 9 = .ok (.ifnull 21, 3) := by decide +kernel
theorem dX11_gift_12 : decode cX11_gift 12 = .ok (.aload_n 0, 1) := by decide +kernel
theorem dX11_gift_13 : decode cX11_gift 13 = .ok (.getfield 155, 3) := by decide +kernel
theorem dX11_gift_16 : decode cX11_gift 16 = .ok (.bipush 20, 2) := by decide +kernel
theorem dX11_gift_18 : decode cX11_gift 18 = .ok (.if_icmp .ge 12, 3) := by decide +kernel
theorem dX11_gift_21 : decode cX11_gift 21 = .ok (.aload_n 0, 1) := by decide +kernel
theorem dX11_gift_22 : decode cX11_gift 22 = .ok (.iload_n 2, 1) := by decide +kernel
theorem dX11_gift_23 : decode cX11_gift 23 = .ok (.iload_n 3, 1) := by decide +kernel
theorem dX11_gift_24 : decode cX11_gift 24 = .ok (.invokevirtual 158, 3) := by decide +kernel
theorem dX11_gift_27 : decode cX11_gift 27 = .ok (.ifCond .ne 5, 3) := by decide +kernel
theorem dX11_gift_30 : decode cX11_gift 30 = .ok (.iconst 0, 1) := by decide +kernel
theorem dX11_gift_31 : decode cX11_gift 31 = .ok (.ireturn, 1) := by decide +kernel
theorem dX11_gift_32 : decode cX11_gift 32 = .ok (.aload 4, 2) := by decide +kernel
theorem dX11_gift_34 : decode cX11_gift 34 = .ok (.iload_n 2, 1) := by decide +kernel
theorem dX11_gift_35 : decode cX11_gift 35 = .ok (.iload_n 3, 1) := by decide +kernel
theorem dX11_gift_36 : decode cX11_gift 36 = .ok (.invokevirtual 162, 3) := by decide +kernel
theorem dX11_gift_39 : decode cX11_gift 39 = .ok (.ifCond .ne 5, 3) := by decide +kernel
theorem dX11_gift_42 : decode cX11_gift 42 = .ok (.iconst 0, 1) := by decide +kernel
theorem dX11_gift_43 : decode cX11_gift 43 = .ok (.ireturn, 1) := by decide +kernel
theorem dX11_gift_44 : decode cX11_gift 44 = .ok (.aload_n 0, 1) := by decide +kernel
theorem dX11_gift_45 : decode cX11_gift 45 = .ok (.dup, 1) := by decide +kernel
theorem dX11_gift_46 : decode cX11_gift 46 = .ok (.getfield 155, 3) := by decide +kernel
theorem dX11_gift_49 : decode cX11_gift 49 = .ok (.iconst 1, 1) := by decide +kernel
theorem dX11_gift_50 : decode cX11_gift 50 = .ok (.iadd, 1) := by decide +kernel
theorem dX11_gift_51 : decode cX11_gift 51 = .ok (.putfield 155, 3) := by decide +kernel
theorem dX11_gift_54 : decode cX11_gift 54 = .ok (.iconst 1, 1) := by decide +kernel
theorem dX11_gift_55 : decode cX11_gift 55 = .ok (.ireturn, 1) := by decide +kernel
theorem dX11_feed_0 : decode cX11_feed 0 = .ok (.aload_n 0, 1) := by decide +kernel
theorem dX11_feed_1 : decode cX11_feed 1 = .ok (.getfield 165, 3) := by decide +kernel
theorem dX11_feed_4 : decode cX11_feed 4 = .ok (.bipush 20, 2) := by decide +kernel
theorem dX11_feed_6 : decode cX11_feed 6 = .ok (.iadd, 1) := by decide +kernel
theorem dX11_feed_7 : decode cX11_feed 7 = .ok (.sipush 220, 3) := by decide +kernel
theorem dX11_feed_10 : decode cX11_feed 10 = .ok (.if_icmp .le 5, 3) := by decide +kernel
theorem dX11_feed_13 : decode cX11_feed 13 = .ok (.iconst (-1), 1) := by decide +kernel
theorem dX11_feed_14 : decode cX11_feed 14 = .ok (.ireturn, 1) := by decide +kernel
theorem dX11_feed_15 : decode cX11_feed 15 = .ok (.aload_n 0, 1) := by decide +kernel
theorem dX11_feed_16 : decode cX11_feed 16 = .ok (.iload_n 1, 1) := by decide +kernel
theorem dX11_feed_17 : decode cX11_feed 17 = .ok (.invokevirtual 168, 3) := by decide +kernel
theorem dX11_feed_20 : decode cX11_feed 20 = .ok (.aload_n 0, 1) := by decide +kernel
theorem dX11_feed_21 : decode cX11_feed 21 = .ok (.iload_n 2, 1) := by decide +kernel
theorem dX11_feed_22 : decode cX11_feed 22 = .ok (.invokevirtual 168, 3) := by decide +kernel
theorem dX11_feed_25 : decode cX11_feed 25 = .ok (.aload_n 0, 1) := by decide +kernel
theorem dX11_feed_26 : decode cX11_feed 26 = .ok (.iload_n 3, 1) := by decide +kernel
theorem dX11_feed_27 : decode cX11_feed 27 = .ok (.invokevirtual 168, 3) := by decide +kernel
theorem dX11_feed_30 : decode cX11_feed 30 = .ok (.aload_n 0, 1) := by decide +kernel
theorem dX11_feed_31 : decode cX11_feed 31 = .ok (.iload 4, 2) := by decide +kernel
theorem dX11_feed_33 : decode cX11_feed 33 = .ok (.invokevirtual 168, 3) := by decide +kernel
theorem dX11_feed_36 : decode cX11_feed 36 = .ok (.aload_n 0, 1) := by decide +kernel
theorem dX11_feed_37 : decode cX11_feed 37 = .ok (.iload 5, 2) := by decide +kernel
theorem dX11_feed_39 : decode cX11_feed 39 = .ok (.invokevirtual 168, 3) := by decide +kernel
theorem dX11_feed_42 : decode cX11_feed 42 = .ok (.aload_n 0, 1) := by decide +kernel
theorem dX11_feed_43 : decode cX11_feed 43 = .ok (.getfield 165, 3) := by decide +kernel
theorem dX11_feed_46 : decode cX11_feed 46 = .ok (.ireturn, 1) := by decide +kernel
theorem dX11_rules_0 : decode cX11_rules 0 = .ok (.iload_n 1, 1) := by decide +kernel
theorem dX11_rules_1 : decode cX11_rules 1 = .ok (.iconst 1, 1) := by decide +kernel
theorem dX11_rules_2 : decode cX11_rules 2 = .ok (.sipush 200, 3) := by decide +kernel
theorem dX11_rules_5 : decode cX11_rules 5 = .ok (.invokestatic 99, 3) := by decide +kernel
theorem dX11_rules_8 : decode cX11_rules 8 = .ok (.ifCond .eq 11, 3) := by decide +kernel
theorem dX11_rules_11 : decode cX11_rules 11 = .ok (.iload_n 1, 1) := by decide +kernel
theorem dX11_rules_12 : decode cX11_rules 12 = .ok (.aload_n 0, 1) := by decide +kernel
theorem dX11_rules_13 : decode cX11_rules 13 = .ok (.getfield 165, 3) := by decide +kernel
theorem dX11_rules_16 : decode cX11_rules 16 = .ok (.if_icmp .le 5, 3) := by decide +kernel
theorem dX11_rules_19 : decode cX11_rules 19 = .ok (.iconst (-1), 1) := by decide +kernel
theorem dX11_rules_20 : decode cX11_rules 20 = .ok (.ireturn, 1) := by decide +kernel
theorem dX11_rules_21 : decode cX11_rules 21 = .ok (.aload_n 0, 1) := by decide +kernel
theorem dX11_rules_22 : decode cX11_rules 22 = .ok (.iconst 0, 1) := by decide +kernel
theorem dX11_rules_23 : decode cX11_rules 23 = .ok (.putfield 165, 3) := by decide +kernel
theorem dX11_rules_26 : decode cX11_rules 26 = .ok (.aload_n 0, 1) := by decide +kernel
theorem dX11_rules_27 : decode cX11_rules 27 = .ok (.getfield 47, 3) := by decide +kernel
theorem dX11_rules_30 : decode cX11_rules 30 = .ok (.aload_n 0, 1) := by decide +kernel
theorem dX11_rules_31 : decode cX11_rules 31 = .ok (.getfield 9, 3) := by decide +kernel
theorem dX11_rules_34 : decode cX11_rules 34 = .ok (.iload_n 1, 1) := by decide +kernel
theorem dX11_rules_35 : decode cX11_rules 35 = .ok (.invokevirtual 172, 3) := by decide +kernel
theorem dX11_rules_38 : decode cX11_rules 38 = .ok (.ifCond .ne 23, 3) := by decide +kernel
theorem dX11_rules_41 : decode cX11_rules 41 = .ok (.sipush (-1000), 3) := by decide +kernel
theorem dX11_rules_44 : decode cX11_rules 44 = .ok (.aload_n 0, 1) := by decide +kernel
theorem dX11_rules_45 : decode cX11_rules 45 = .ok (.getfield 47, 3) := by decide +kernel
theorem dX11_rules_48 : decode cX11_rules 48 = .ok (.getfield 176, 3) := by decide +kernel
theorem dX11_rules_51 : decode cX11_rules 51 = .ok (.imul, 1) := by decide +kernel
theorem dX11_rules_52 : decode cX11_rules 52 = .ok (.aload_n 0, 1) := by decide +kernel
theorem dX11_rules_53 : decode cX11_rules 53 = .ok (.getfield 47, 3) := by decide +kernel
theorem dX11_rules_56 : decode cX11_rules 56 = .ok (.getfield 179, 3) := by decide +kernel
theorem dX11_rules_59 : decode cX11_rules 59 = .ok (.isub, 1) := by decide +kernel
theorem dX11_rules_60 : decode cX11_rules 60 = .ok (.ireturn, 1) := by decide +kernel
theorem dX11_rules_61 : decode cX11_rules 61 = .ok (.aload_n 0, 1) := by decide +kernel
theorem dX11_rules_62 : decode cX11_rules 62 = .ok (.getfield 56, 3) := by decide +kernel
theorem dX11_rules_65 : decode cX11_rules 65 = .ok (.getfield 182, 3) := by decide +kernel
theorem dX11_rules_68 : decode cX11_rules 68 = .ok (.astore_n 2, 1) := by decide +kernel
theorem dX11_rules_69 : decode cX11_rules 69 = .ok (.aload_n 0, 1) := by decide +kernel
theorem dX11_rules_70 : decode cX11_rules 70 = .ok (.getfield 56, 3) := by decide +kernel
theorem dX11_rules_73 : decode cX11_rules 73 = .ok (.aload_n 0, 1) := by decide +kernel
theorem dX11_rules_74 : decode cX11_rules 74 = .ok (.getfield 47, 3) := by decide +kernel
theorem dX11_rules_77 : decode cX11_rules 77 = .ok (.putfield 182, 3) := by decide +kernel
theorem dX11_rules_80 : decode cX11_rules 80 = .ok (.aload_n 0, 1) := by decide +kernel
theorem dX11_rules_81 : decode cX11_rules 81 = .ok (.aload_n 2, 1) := by decide +kernel
theorem dX11_rules_82 : decode cX11_rules 82 = .ok (.putfield 47, 3) := by decide +kernel
theorem dX11_rules_85 : decode cX11_rules 85 = .ok (.aload_n 0, 1) := by decide +kernel
theorem dX11_rules_86 : decode cX11_rules 86 = .ok (.getfield 56, 3) := by decide +kernel
theorem dX11_rules_89 : decode cX11_rules 89 = .ok (.getfield 182, 3) := by decide +kernel
theorem dX11_rules_92 : decode cX11_rules 92 = .ok (.getfield 185, 3) := by decide +kernel
theorem dX11_rules_95 : decode cX11_rules 95 = .ok (.ireturn, 1) := by decide +kernel
theorem dX11_check_0 : decode cX11_check 0 = .ok (.aload_n 0, 1) := by decide +kernel
theorem dX11_check_1 : decode cX11_check 1 = .ok (.iload_n 1, 1) := by decide +kernel
theorem dX11_check_2 : decode cX11_check 2 = .ok (.invokevirtual 151, 3) := by decide +kernel
theorem dX11_check_5 : decode cX11_check 5 = .ok (.astore_n 3, 1) := by decide +kernel
theorem dX11_check_6 : decode cX11_check 6 = .ok (.aload_n 3, 1) := by decide +kernel
theorem dX11_check_7 : decode cX11_check 7 = .ok (.ifnull 18, 3) := by decide +kernel
theorem dX11_check_10 : decode cX11_check 10 = .ok (.iload_n 2, 1) := by decide +kernel
theorem dX11_check_11 : decode cX11_check 11 = .ok (.ifCond .lt 14, 3) := by decide +kernel
theorem dX11_check_14 : decode cX11_check 14 = .ok (.iload_n 2, 1) := by decide +kernel
theorem dX11_check_15 : decode cX11_check 15 = .ok (.aload_n 0, 1) := by decide +kernel
theorem dX11_check_16 : decode cX11_check 16 = .ok (.getfield 165, 3) := by decide +kernel
theorem dX11_check_19 : decode cX11_check 19 = .ok (.bipush 8, 2) := by decide +kernel
theorem dX11_check_21 : decode cX11_check 21 = .ok (.idiv, 1) := by decide +kernel
theorem dX11_check_22 : decode cX11_check 22 = .ok (.if_icmp .le 6, 3) := by decide +kernel
theorem dX11_check_25 : decode cX11_check 25 = .ok (.bipush (-2), 2) := by decide +kernel
theorem dX11_check_27 : decode cX11_check 27 = .ok (.ireturn, 1) := by decide +kernel
theorem dX11_check_28 : decode cX11_check 28 = .ok (.aload_n 0, 1) := by decide +kernel
theorem dX11_check_29 : decode cX11_check 29 = .ok (.aload_n 3, 1) := by decide +kernel
theorem dX11_check_30 : decode cX11_check 30 = .ok (.iconst 2, 1) := by decide +kernel
theorem dX11_check_31 : decode cX11_check 31 = .ok (.iload_n 2, 1) := by decide +kernel
theorem dX11_check_32 : decode cX11_check 32 = .ok (.imul, 1) := by decide +kernel
theorem dX11_check_33 : decode cX11_check 33 = .ok (.invokevirtual 188, 3) := by decide +kernel
theorem dX11_check_36 : decode cX11_check 36 = .ok (.istore 4, 2) := by decide +kernel
theorem dX11_check_38 : decode cX11_check 38 = .ok (.aload_n 0, 1) := by decide +kernel
theorem dX11_check_39 : decode cX11_check 39 = .ok (.iconst 0, 1) := by decide +kernel
theorem dX11_check_40 : decode cX11_check 40 = .ok (.putfield 165, 3) := by decide +kernel
theorem dX11_check_43 : decode cX11_check 43 = .ok (.iload 4, 2) := by decide +kernel
theorem dX11_check_45 : decode cX11_check 45 = .ok (.ireturn, 1) := by decide +kernel
theorem dX11_not_0 : decode cX11_not 0 = .ok (.aload_n 0, 1) := by decide +kernel
theorem dX11_not_1 : decode cX11_not 1 = .ok (.iload_n 1, 1) := by decide +kernel
theorem dX11_not_2 : decode cX11_not 2 = .ok (.invokevirtual 151, 3) := by decide +kernel
theorem dX11_not_5 : decode cX11_not 5 = .ok (.astore_n 3, 1) := by decide +kernel
theorem dX11_not_6 : decode cX11_not 6 = .ok (.aload_n 0, 1) := by decide +kernel
theorem dX11_not_7 : decode cX11_not 7 = .ok (.iload_n 2, 1) := by decide +kernel
theorem dX11_not_8 : decode cX11_not 8 = .ok (.invokevirtual 192, 3) := by decide +kernel
theorem dX11_not_11 : decode cX11_not 11 = .ok (.astore 4, 2) := by decide +kernel
theorem dX11_not_13 : decode cX11_not 13 = .ok (.aload_n 3, 1) := by decide +kernel
theorem dX11_not_14 : decode cX11_not 14 = .ok (.ifnull 8, 3) := by decide +kernel
theorem dX11_not_17 : decode cX11_not 17 = .ok (.aload 4, 2) := by decide +kernel
theorem dX11_not_19 : decode cX11_not 19 = .ok (.ifnonnull 5, 3) := by decide +kernel
theorem dX11_not_22 : decode cX11_not 22 = .ok (.iconst (-1), 1) := by decide +kernel
theorem dX11_not_23 : decode cX11_not 23 = .ok (.ireturn, 1) := by decide +kernel
theorem dX11_not_24 : decode cX11_not 24 = .ok (.aload_n 0, 1) := by decide +kernel
theorem dX11_not_25 : decode cX11_not 25 = .ok (.aload_n 3, 1) := by decide +kernel
theorem dX11_not_26 : decode cX11_not 26 = .ok (.aload 4, 2) := by decide +kernel
theorem dX11_not_28 : decode cX11_not 28 = .ok (.invokevirtual 196, 3) := by decide +kernel
theorem dX11_not_31 : decode cX11_not 31 = .ok (.ireturn, 1) := by decide +kernel
theorem dX11_lend_0 : decode cX11_lend 0 = .ok (.aload_n 0, 1) := by decide +kernel
theorem dX11_lend_1 : decode cX11_lend 1 = .ok (.iload_n 1, 1) := by decide +kernel
theorem dX11_lend_2 : decode cX11_lend 2 = .ok (.invokevirtual 151, 3) := by decide +kernel
theorem dX11_lend_5 : decode cX11_lend 5 = .ok (.astore_n 3, 1) := by decide +kernel
theorem dX11_lend_6 : decode cX11_lend 6 = .ok (.aload_n 0, 1) := by decide +kernel
theorem dX11_lend_7 : decode cX11_lend 7 = .ok (.iload_n 2, 1) := by decide +kernel
theorem dX11_lend_8 : decode cX11_lend 8 = .ok (.invokevirtual 192, 3) := by decide +kernel
theorem dX11_lend_11 : decode cX11_lend 11 = .ok (.astore 4, 2) := by decide +kernel
theorem dX11_lend_13 : decode cX11_lend 13 = .ok (.aload_n 3, 1) := by decide +kernel
theorem dX11_lend_14 : decode cX11_lend 14 = .ok (.ifnull 31, 3) := by decide +kernel
theorem dX11_lend_17 : decode cX11_lend 17 = .ok (.aload 4, 2) := by decide +kernel
theorem dX11_lend_19 : decode cX11_lend 19 = .ok (.ifnull 26, 3) := by decide +kernel
theorem dX11_lend_22 : decode cX11_lend 22 = .ok (.aload_n 0, 1) := by decide +kernel
theorem dX11_lend_23 : decode cX11_lend 23 = .ok (.getfield 63, 3) := by decide +kernel
theorem dX11_lend_26 : decode cX11_lend 26 = .ok (.getfield 200, 3) := by decide +kernel
theorem dX11_lend_29 : decode cX11_lend 29 = .ok (.sipush 300, 3) := by decide +kernel
theorem dX11_lend_32 : decode cX11_lend 32 = .ok (.if_icmp .ge 13, 3) := by decide +kernel
theorem dX11_lend_35 : decode cX11_lend 35 = .ok (.aload_n 0, 1) := by decide +kernel
theorem dX11_lend_36 : decode cX11_lend 36 = .ok (.aload_n 3, 1) := by decide +kernel
theorem dX11_lend_37 : decode cX11_lend 37 = .ok (.aload 4, 2) := by decide +kernel
theorem dX11_lend_39 : decode cX11_lend 39 = .ok (.invokevirtual 196, 3) := by decide +kernel
theorem dX11_lend_42 : decode cX11_lend 42 = .ok (.ifCond .eq 5, 3) := by decide +kernel
theorem dX11_lend_45 : decode cX11_lend 45 = .ok (.iconst (-1), 1) := by decide +kernel
theorem dX11_lend_46 : decode cX11_lend 46 = .ok (.ireturn, 1) := by decide +kernel
theorem dX11_lend_47 : decode cX11_lend 47 = .ok (.aload_n 0, 1) := by decide +kernel
theorem dX11_lend_48 : decode cX11_lend 48 = .ok (.aload_n 3, 1) := by decide +kernel
theorem dX11_lend_49 : decode cX11_lend 49 = .ok (.getfield 203, 3) := by decide +kernel
theorem dX11_lend_52 : decode cX11_lend 52 = .ok (.aload_n 3, 1) := by decide +kernel
theorem dX11_lend_53 : decode cX11_lend 53 = .ok (.aload 4, 2) := by decide +kernel
theorem dX11_lend_55 : decode cX11_lend 55 = .ok (.iconst 0, 1) := by decide +kernel
theorem dX11_lend_56 : decode cX11_lend 56 = .ok (.invokevirtual 207, 3) := by decide +kernel
theorem dX11_lend_59 : decode cX11_lend 59 = .ok (.aload_n 0, 1) := by decide +kernel
theorem dX11_lend_60 : decode cX11_lend 60 = .ok (.getfield 56, 3) := by decide +kernel
theorem dX11_lend_63 : decode cX11_lend 63 = .ok (.bipush 100, 2) := by decide +kernel
theorem dX11_lend_65 : decode cX11_lend 65 = .ok (.bipush 21, 2) := by decide +kernel
theorem dX11_lend_67 : decode cX11_lend 67 = .ok (.iconst 1, 1) := by decide +kernel
theorem dX11_lend_68 : decode cX11_lend 68 = .ok (.sipush 200, 3) := by decide +kernel
theorem dX11_lend_71 : decode cX11_lend 71 = .ok (.invokevirtual 211, 3) := by decide +kernel
theorem dX11_lend_74 : decode cX11_lend 74 = .ok (.istore 5, 2) := by decide +kernel
theorem dX11_lend_76 : decode cX11_lend 76 = .ok (.aload_n 3, 1) := by decide +kernel
theorem dX11_lend_77 : decode cX11_lend 77 = .ok (.aload 4, 2) := by decide +kernel
theorem dX11_lend_79 : decode cX11_lend 79 = .ok (.getfield 144, 3) := by decide +kernel
theorem dX11_lend_82 : decode cX11_lend 82 = .ok (.aload_n 0, 1) := by decide +kernel
theorem dX11_lend_83 : decode cX11_lend 83 = .ok (.getfield 95, 3) := by decide +kernel
theorem dX11_lend_86 : decode cX11_lend 86 = .ok (.aload_n 0, 1) := by decide +kernel
theorem dX11_lend_87 : decode cX11_lend 87 = .ok (.getfield 95, 3) := by decide +kernel
theorem dX11_lend_90 : decode cX11_lend 90 = .ok (.iload 5, 2) := by decide +kernel
theorem dX11_lend_92 : decode cX11_lend 92 = .ok (.iadd, 1) := by decide +kernel
theorem dX11_lend_93 : decode cX11_lend 93 = .ok (.invokevirtual 215, 3) := by decide +kernel
theorem dX11_lend_96 : decode cX11_lend 96 = .ok (.aload 4, 2) := by decide +kernel
theorem dX11_lend_98 : decode cX11_lend 98 = .ok (.aload_n 3, 1) := by decide +kernel
theorem dX11_lend_99 : decode cX11_lend 99 = .ok (.getfield 203, 3) := by decide +kernel
theorem dX11_lend_102 : decode cX11_lend 102 = .ok (.getfield 116, 3) := by decide +kernel
theorem dX11_lend_105 : decode cX11_lend 105 = .ok (.invokevirtual 219, 3) := by decide +kernel
theorem dX11_lend_108 : decode cX11_lend 108 = .ok (.aload_n 0, 1) := by decide +kernel
theorem dX11_lend_109 : decode cX11_lend 109 = .ok (.getfield 63, 3) := by decide +kernel
theorem dX11_lend_112 : decode cX11_lend 112 = .ok (.dup, 1) := by decide +kernel
theorem dX11_lend_113 : decode cX11_lend 113 = .ok (.getfield 200, 3) := by decide +kernel
theorem dX11_lend_116 : decode cX11_lend 116 = .ok (.iconst 1, 1) := by decide +kernel
theorem dX11_lend_117 : decode cX11_lend 117 = .ok (.iadd, 1) := by decide +kernel
theorem dX11_lend_118 : decode cX11_lend 118 = .ok (.putfield 200, 3) := by decide +kernel
theorem dX11_lend_121 : decode cX11_lend 121 = .ok (.aload_n 0, 1) := by decide +kernel
theorem dX11_lend_122 : decode cX11_lend 122 = .ok (.getfield 63, 3) := by decide +kernel
theorem dX11_lend_125 : decode cX11_lend 125 = .ok (.aload_n 3, 1) := by decide +kernel
theorem dX11_lend_126 : decode cX11_lend 126 = .ok (.getfield 138, 3) := by decide +kernel
theorem dX11_lend_129 : decode cX11_lend 129 = .ok (.aload_n 0, 1) := by decide +kernel
theorem dX11_lend_130 : decode cX11_lend 130 = .ok (.getfield 95, 3) := by decide +kernel
theorem dX11_lend_133 : decode cX11_lend 133 = .ok (.aload_n 0, 1) := by decide +kernel
theorem dX11_lend_134 : decode cX11_lend 134 = .ok (.getfield 95, 3) := by decide +kernel
theorem dX11_lend_137 : decode cX11_lend 137 = .ok (.aload_n 0, 1) := by decide +kernel
theorem dX11_lend_138 : decode cX11_lend 138 = .ok (.getfield 148, 3) := by decide +kernel
theorem dX11_lend_141 : decode cX11_lend 141 = .ok (.iadd, 1) := by decide +kernel
theorem dX11_lend_142 : decode cX11_lend 142 = .ok (.iconst 1, 1) := by decide +kernel
theorem dX11_lend_143 : decode cX11_lend 143 = .ok (.aload 4, 2) := by decide +kernel
theorem dX11_lend_145 : decode cX11_lend 145 = .ok (.getfield 144, 3) := by decide +kernel
theorem dX11_lend_148 : decode cX11_lend 148 = .ok (.iadd, 1) := by decide +kernel
theorem dX11_lend_149 : decode cX11_lend 149 = .ok (.invokevirtual 222, 3) := by decide +kernel
theorem dX11_lend_152 : decode cX11_lend 152 = .ok (.aload_n 3, 1) := by decide +kernel
theorem dX11_lend_153 : decode cX11_lend 153 = .ok (.getfield 225, 3) := by decide +kernel
theorem dX11_lend_156 : decode cX11_lend 156 = .ok (.ireturn, 1) := by decide +kernel
theorem dX11_back_0 : decode cX11_back 0 = .ok (.aload_n 0, 1) := by decide +kernel
theorem dX11_back_1 : decode cX11_back 1 = .ok (.iload_n 1, 1) := by decide +kernel
theorem dX11_back_2 : decode cX11_back 2 = .ok (.invokevirtual 151, 3) := by decide +kernel
theorem dX11_back_5 : decode cX11_back 5 = .ok (.astore_n 2, 1) := by decide +kernel
theorem dX11_back_6 : decode cX11_back 6 = .ok (.aload_n 0, 1) := by decide +kernel
theorem dX11_back_7 : decode cX11_back 7 = .ok (.aload_n 2, 1) := by decide +kernel
theorem dX11_back_8 : decode cX11_back 8 = .ok (.invokevirtual 228, 3) := by decide +kernel
theorem dX11_back_11 : decode cX11_back 11 = .ok (.astore_n 3, 1) := by decide +kernel
theorem dX11_back_12 : decode cX11_back 12 = .ok (.aload_n 2, 1) := by decide +kernel
theorem dX11_back_13 : decode cX11_back 13 = .ok (.ifnull 16, 3) := by decide +kernel
theorem dX11_back_16 : decode cX11_back 16 = .ok (.aload_n 3, 1) := by decide +kernel
theorem dX11_back_17 : decode cX11_back 17 = .ok (.ifnull 12, 3) := by decide +kernel
theorem dX11_back_20 : decode cX11_back 20 = .ok (.aload_n 0, 1) := by decide +kernel
theorem dX11_back_21 : decode cX11_back 21 = .ok (.getfield 165, 3) := by decide +kernel
theorem dX11_back_24 : decode cX11_back 24 = .ok (.bipush 6, 2) := by decide +kernel
theorem dX11_back_26 : decode cX11_back 26 = .ok (.if_icmp .ge 5, 3) := by decide +kernel
theorem dX11_back_29 : decode cX11_back 29 = .ok (.iconst (-1), 1) := by decide +kernel
theorem dX11_back_30 : decode cX11_back 30 = .ok (.ireturn, 1) := by decide +kernel
theorem dX11_back_31 : decode cX11_back 31 = .ok (.aload_n 0, 1) := by decide +kernel
theorem dX11_back_32 : decode cX11_back 32 = .ok (.iconst 0, 1) := by decide +kernel
theorem dX11_back_33 : decode cX11_back 33 = .ok (.putfield 165, 3) := by decide +kernel
theorem dX11_back_36 : decode cX11_back 36 = .ok (.aload_n 2, 1) := by decide +kernel
theorem dX11_back_37 : decode cX11_back 37 = .ok (.aload_n 0, 1) := by decide +kernel
theorem dX11_back_38 : decode cX11_back 38 = .ok (.getfield 9, 3) := by decide +kernel
theorem dX11_back_41 : decode cX11_back 41 = .ok (.invokevirtual 232, 3) := by decide +kernel
theorem dX11_back_44 : decode cX11_back 44 = .ok (.ifCond .ne 6, 3) := by decide +kernel
theorem dX11_back_47 : decode cX11_back 47 = .ok (.bipush (-2), 2) := by decide +kernel
theorem dX11_back_49 : decode cX11_back 49 = .ok (.ireturn, 1) := by decide +kernel
theorem dX11_back_50 : decode cX11_back 50 = .ok (.iconst 0, 1) := by decide +kernel
theorem dX11_back_51 : decode cX11_back 51 = .ok (.aload_n 0, 1) := by decide +kernel
theorem dX11_back_52 : decode cX11_back 52 = .ok (.getfield 95, 3) := by decide +kernel
theorem dX11_back_55 : decode cX11_back 55 = .ok (.aload_n 2, 1) := by decide +kernel
theorem dX11_back_56 : decode cX11_back 56 = .ok (.getfield 225, 3) := by decide +kernel
theorem dX11_back_59 : decode cX11_back 59 = .ok (.isub, 1) := by decide +kernel
theorem dX11_back_60 : decode cX11_back 60 = .ok (.invokestatic 236, 3) := by decide +kernel
theorem dX11_back_63 : decode cX11_back 63 = .ok (.istore 4, 2) := by decide +kernel
theorem dX11_back_65 : decode cX11_back 65 = .ok (.aload_n 2, 1) := by decide +kernel
theorem dX11_back_66 : decode cX11_back 66 = .ok (.aload_n 0, 1) := by decide +kernel
theorem dX11_back_67 : decode cX11_back 67 = .ok (.getfield 9, 3) := by decide +kernel
theorem dX11_back_70 : decode cX11_back 70 = .ok (.aload_n 0, 1) := by decide +kernel
theorem dX11_back_71 : decode cX11_back 71 = .ok (.getfield 95, 3) := by decide +kernel
theorem dX11_back_74 : decode cX11_back 74 = .ok (.invokevirtual 242, 3) := by decide +kernel
theorem dX11_back_77 : decode cX11_back 77 = .ok (.istore 5, 2) := by decide +kernel
theorem dX11_back_79 : decode cX11_back 79 = .ok (.aload_n 0, 1) := by decide +kernel
theorem dX11_back_80 : decode cX11_back 80 = .ok (.aload_n 2, 1) := by decide +kernel
theorem dX11_back_81 : decode cX11_back 81 = .ok (.aload_n 3, 1) := by decide +kernel
theorem dX11_back_82 : decode cX11_back 82 = .ok (.iload 4, 2) := by decide +kernel
theorem dX11_back_84 : decode cX11_back 84 = .ok (.iload 5, 2) := by decide +kernel
theorem dX11_back_86 : decode cX11_back 86 = .ok (.invokevirtual 246, 3) := by decide +kernel
theorem dX11_back_89 : decode cX11_back 89 = .ok (.istore 6, 2) := by decide +kernel
theorem dX11_back_91 : decode cX11_back 91 = .ok (.aload_n 2, 1) := by decide +kernel
theorem dX11_back_92 : decode cX11_back 92 = .ok (.iconst 0, 1) := by decide +kernel
theorem dX11_back_93 : decode cX11_back 93 = .ok (.invokevirtual 250, 3) := by decide +kernel
theorem dX11_back_96 : decode cX11_back 96 = .ok (.aload_n 0, 1) := by decide +kernel
theorem dX11_back_97 : decode cX11_back 97 = .ok (.getfield 63, 3) := by decide +kernel
theorem dX11_back_100 : decode cX11_back 100 = .ok (.aload_n 2, 1) := by decide +kernel
theorem dX11_back_101 : decode cX11_back 101 = .ok (.getfield 138, 3) := by decide +kernel
theorem dX11_back_104 : decode cX11_back 104 = .ok (.aload_n 0, 1) := by decide +kernel
theorem dX11_back_105 : decode cX11_back 105 = .ok (.getfield 95, 3) := by decide +kernel
theorem dX11_back_108 : decode cX11_back 108 = .ok (.aload_n 0, 1) := by decide +kernel
theorem dX11_back_109 : decode cX11_back 109 = .ok (.getfield 95, 3) := by decide +kernel
theorem dX11_back_112 : decode cX11_back 112 = .ok (.aload_n 0, 1) := by decide +kernel
theorem dX11_back_113 : decode cX11_back 113 = .ok (.getfield 148, 3) := by decide +kernel
theorem dX11_back_116 : decode cX11_back 116 = .ok (.iadd, 1) := by decide +kernel
theorem dX11_back_117 : decode cX11_back 117 = .ok (.iconst 0, 1) := by decide +kernel
theorem dX11_back_118 : decode cX11_back 118 = .ok (.invokevirtual 222, 3) := by decide +kernel
theorem dX11_back_121 : decode cX11_back 121 = .ok (.iload 6, 2) := by decide +kernel
theorem dX11_back_123 : decode cX11_back 123 = .ok (.ireturn, 1) := by decide +kernel
theorem dX11_lost_0 : decode cX11_lost 0 = .ok (.aload_n 0, 1) := by decide +kernel
theorem dX11_lost_1 : decode cX11_lost 1 = .ok (.iload_n 1, 1) := by decide +kernel
theorem dX11_lost_2 : decode cX11_lost 2 = .ok (.invokevirtual 151, 3) := by decide +kernel
theorem dX11_lost_5 : decode cX11_lost 5 = .ok (.astore_n 2, 1) := by decide +kernel
theorem dX11_lost_6 : decode cX11_lost 6 = .ok (.aload_n 0, 1) := by decide +kernel
theorem dX11_lost_7 : decode cX11_lost 7 = .ok (.aload_n 2, 1) := by decide +kernel
theorem dX11_lost_8 : decode cX11_lost 8 = .ok (.invokevirtual 228, 3) := by decide +kernel
theorem dX11_lost_11 : decode cX11_lost 11 = .ok (.astore_n 3, 1) := by decide +kernel
theorem dX11_lost_12 : decode cX11_lost 12 = .ok (.aload_n 2, 1) := by decide +kernel
theorem dX11_lost_13 : decode cX11_lost 13 = .ok (.ifnull 7, 3) := by decide +kernel
theorem dX11_lost_16 : decode cX11_lost 16 = .ok (.aload_n 3, 1) := by decide +kernel
theorem dX11_lost_17 : decode cX11_lost 17 = .ok (.ifnonnull 5, 3) := by decide +kernel
theorem dX11_lost_20 : decode cX11_lost 20 = .ok (.iconst (-1), 1) := by decide +kernel
theorem dX11_lost_21 : decode cX11_lost 21 = .ok (.ireturn, 1) := by decide +kernel
theorem dX11_lost_22 : decode cX11_lost 22 = .ok (.aload_n 0, 1) := by decide +kernel
theorem dX11_lost_23 : decode cX11_lost 23 = .ok (.aload_n 2, 1) := by decide +kernel
theorem dX11_lost_24 : decode cX11_lost 24 = .ok (.getfield 203, 3) := by decide +kernel
theorem dX11_lost_27 : decode cX11_lost 27 = .ok (.aload_n 2, 1) := by decide +kernel
theorem dX11_lost_28 : decode cX11_lost 28 = .ok (.aload_n 3, 1) := by decide +kernel
theorem dX11_lost_29 : decode cX11_lost 29 = .ok (.iconst 0, 1) := by decide +kernel
theorem dX11_lost_30 : decode cX11_lost 30 = .ok (.invokevirtual 207, 3) := by decide +kernel
theorem dX11_lost_33 : decode cX11_lost 33 = .ok (.aload_n 2, 1) := by decide +kernel
theorem dX11_lost_34 : decode cX11_lost 34 = .ok (.invokevirtual 253, 3) := by decide +kernel
theorem dX11_lost_37 : decode cX11_lost 37 = .ok (.aload_n 0, 1) := by decide +kernel
theorem dX11_lost_38 : decode cX11_lost 38 = .ok (.getfield 56, 3) := by decide +kernel
theorem dX11_lost_41 : decode cX11_lost 41 = .ok (.bipush 112, 2) := by decide +kernel
theorem dX11_lost_43 : decode cX11_lost 43 = .ok (.iconst 0, 1) := by decide +kernel
theorem dX11_lost_44 : decode cX11_lost 44 = .ok (.iconst 0, 1) := by decide +kernel
theorem dX11_lost_45 : decode cX11_lost 45 = .ok (.ldc_w 256, 3) := by decide +kernel
theorem dX11_lost_48 : decode cX11_lost 48 = .ok (.invokevirtual 211, 3) := by decide +kernel
theorem dX11_lost_51 : decode cX11_lost 51 = .ok (.imul, 1) := by decide +kernel
theorem dX11_lost_52 : decode cX11_lost 52 = .ok (.istore 4, 2) := by decide +kernel
theorem dX11_lost_54 : decode cX11_lost 54 = .ok (.aload_n 3, 1) := by decide +kernel
theorem dX11_lost_55 : decode cX11_lost 55 = .ok (.dup, 1) := by decide +kernel
theorem dX11_lost_56 : decode cX11_lost 56 = .ok (.getfield 257, 3) := by decide +kernel
theorem dX11_lost_59 : decode cX11_lost 59 = .ok (.iload 4, 2) := by decide +kernel
theorem dX11_lost_61 : decode cX11_lost 61 = .ok (.iadd, 1) := by decide +kernel
theorem dX11_lost_62 : decode cX11_lost 62 = .ok (.putfield 257, 3) := by decide +kernel
theorem dX11_lost_65 : decode cX11_lost 65 = .ok (.aload_n 2, 1) := by decide +kernel
theorem dX11_lost_66 : decode cX11_lost 66 = .ok (.iconst 2, 1) := by decide +kernel
theorem dX11_lost_67 : decode cX11_lost 67 = .ok (.invokevirtual 250, 3) := by decide +kernel
theorem dX11_lost_70 : decode cX11_lost 70 = .ok (.aload_n 0, 1) := by decide +kernel
theorem dX11_lost_71 : decode cX11_lost 71 = .ok (.getfield 63, 3) := by decide +kernel
theorem dX11_lost_74 : decode cX11_lost 74 = .ok (.aload_n 2, 1) := by decide +kernel
theorem dX11_lost_75 : decode cX11_lost 75 = .ok (.getfield 138, 3) := by decide +kernel
theorem dX11_lost_78 : decode cX11_lost 78 = .ok (.aload_n 0, 1) := by decide +kernel
theorem dX11_lost_79 : decode cX11_lost 79 = .ok (.getfield 95, 3) := by decide +kernel
theorem dX11_lost_82 : decode cX11_lost 82 = .ok (.aload_n 0, 1) := by decide +kernel
theorem dX11_lost_83 : decode cX11_lost 83 = .ok (.getfield 95, 3) := by decide +kernel
theorem dX11_lost_86 : decode cX11_lost 86 = .ok (.aload_n 0, 1) := by decide +kernel
theorem dX11_lost_87 : decode cX11_lost 87 = .ok (.getfield 148, 3) := by decide +kernel
theorem dX11_lost_90 : decode cX11_lost 90 = .ok (.iadd, 1) := by decide +kernel
theorem dX11_lost_91 : decode cX11_lost 91 = .ok (.bipush 20, 2) := by decide +kernel
theorem dX11_lost_93 : decode cX11_lost 93 = .ok (.invokevirtual 222, 3) := by decide +kernel
theorem dX11_lost_96 : decode cX11_lost 96 = .ok (.iload 4, 2) := by decide +kernel
theorem dX11_lost_98 : decode cX11_lost 98 = .ok (.ireturn, 1) := by decide +kernel
theorem dX11_wash_0 : decode cX11_wash 0 = .ok (.aload_n 0, 1) := by decide +kernel
theorem dX11_wash_1 : decode cX11_wash 1 = .ok (.iload_n 1, 1) := by decide +kernel
theorem dX11_wash_2 : decode cX11_wash 2 = .ok (.invokevirtual 151, 3) := by decide +kernel
theorem dX11_wash_5 : decode cX11_wash 5 = .ok (.astore_n 2, 1) := by decide +kernel
theorem dX11_wash_6 : decode cX11_wash 6 = .ok (.aload_n 2, 1) := by decide +kernel
theorem dX11_wash_7 : decode cX11_wash 7 = .ok (.ifnull 10, 3) := by decide +kernel
theorem dX11_wash_10 : decode cX11_wash 10 = .ok (.aload_n 2, 1) := by decide +kernel
theorem dX11_wash_11 : decode cX11_wash 11 = .ok (.getfield 260, 3) := by decide +kernel
theorem dX11_wash_14 : decode cX11_wash 14 = .ok (.ifCond .ne 5, 3) := by decide +kernel
theorem dX11_wash_17 : decode cX11_wash 17 = .ok (.iconst 0, 1) := by decide +kernel
theorem dX11_wash_18 : decode cX11_wash 18 = .ok (.ireturn, 1) := by decide +kernel
theorem dX11_wash_19 : decode cX11_wash 19 = .ok (.aload_n 2, 1) := by decide +kernel
theorem dX11_wash_20 : decode cX11_wash 20 = .ok (.iconst 0, 1) := by decide +kernel
theorem dX11_wash_21 : decode cX11_wash 21 = .ok (.putfield 260, 3) := by decide +kernel
theorem dX11_wash_24 : decode cX11_wash 24 = .ok (.iconst 1, 1) := by decide +kernel
theorem dX11_wash_25 : decode cX11_wash 25 = .ok (.ireturn, 1) := by decide +kernel
theorem dX11_cull_0 : decode cX11_cull 0 = .ok (.aload_n 0, 1) := by decide +kernel
theorem dX11_cull_1 : decode cX11_cull 1 = .ok (.iload_n 1, 1) := by decide +kernel
theorem dX11_cull_2 : decode cX11_cull 2 = .ok (.invokevirtual 151, 3) := by decide +kernel
theorem dX11_cull_5 : decode cX11_cull 5 = .ok (.astore_n 2, 1) := by decide +kernel
theorem dX11_cull_6 : decode cX11_cull 6 = .ok (.aload_n 2, 1) := by decide +kernel
theorem dX11_cull_7 : decode cX11_cull 7 = .ok (.ifnull 10, 3) := by decide +kernel
theorem dX11_cull_10 : decode cX11_cull 10 = .ok (.aload_n 2, 1) := by decide +kernel
theorem dX11_cull_11 : decode cX11_cull 11 = .ok (.getfield 264, 3) := by decide +kernel
theorem dX11_cull_14 : decode cX11_cull 14 = .ok (.ifCond .eq 5, 3) := by decide +kernel
theorem dX11_cull_17 : decode cX11_cull 17 = .ok (.iconst 0, 1) := by decide +kernel
theorem dX11_cull_18 : decode cX11_cull 18 = .ok (.ireturn, 1) := by decide +kernel
theorem dX11_cull_19 : decode cX11_cull 19 = .ok (.aload_n 2, 1) := by decide +kernel
theorem dX11_cull_20 : decode cX11_cull 20 = .ok (.iconst 3, 1) := by decide +kernel
theorem dX11_cull_21 : decode cX11_cull 21 = .ok (.putfield 264, 3) := by decide +kernel
theorem dX11_cull_24 : decode cX11_cull 24 = .ok (.iconst 1, 1) := by decide +kernel
theorem dX11_cull_25 : decode cX11_cull 25 = .ok (.ireturn, 1) := by decide +kernel
theorem dX11_mend_0 : decode cX11_mend 0 = .ok (.aload_n 0, 1) := by decide +kernel
theorem dX11_mend_1 : decode cX11_mend 1 = .ok (.iload_n 1, 1) := by decide +kernel
theorem dX11_mend_2 : decode cX11_mend 2 = .ok (.invokevirtual 151, 3) := by decide +kernel
theorem dX11_mend_5 : decode cX11_mend 5 = .ok (.astore_n 2, 1) := by decide +kernel
theorem dX11_mend_6 : decode cX11_mend 6 = .ok (.aload_n 2, 1) := by decide +kernel
theorem dX11_mend_7 : decode cX11_mend 7 = .ok (.ifnull 17, 3) := by decide +kernel
theorem dX11_mend_10 : decode cX11_mend 10 = .ok (.aload_n 2, 1) := by decide +kernel
theorem dX11_mend_11 : decode cX11_mend 11 = .ok (.getfield 264, 3) := by decide +kernel
theorem dX11_mend_14 : decode cX11_mend 14 = .ok (.ifCond .ne 10, 3) := by decide +kernel
theorem dX11_mend_17 : decode cX11_mend 17 = .ok (.aload_n 2, 1) := by decide +kernel
theorem dX11_mend_18 : decode cX11_mend 18 = .ok (.invokevirtual 265, 3) := by decide +kernel
theorem dX11_mend_21 : decode cX11_mend 21 = .ok (.ifCond .ne 5, 3) := by decide +kernel
theorem dX11_mend_24 : decode cX11_mend 24 = .ok (.iconst (-1), 1) := by decide +kernel
theorem dX11_mend_25 : decode cX11_mend 25 = .ok (.ireturn, 1) := by decide +kernel
theorem dX11_mend_26 : decode cX11_mend 26 = .ok (.aload_n 2, 1) := by decide +kernel
theorem dX11_mend_27 : decode cX11_mend 27 = .ok (.invokevirtual 265, 3) := by decide +kernel
theorem dX11_mend_30 : decode cX11_mend 30 = .ok (.istore_n 3, 1) := by decide +kernel
theorem dX11_mend_31 : decode cX11_mend 31 = .ok (.aload_n 2, 1) := by decide +kernel
theorem dX11_mend_32 : decode cX11_mend 32 = .ok (.invokevirtual 268, 3) := by decide +kernel
theorem dX11_mend_35 : decode cX11_mend 35 = .ok (.iload_n 3, 1) := by decide +kernel
theorem dX11_mend_36 : decode cX11_mend 36 = .ok (.ireturn, 1) := by decide +kernel
theorem dX11_toyIs_0 : decode cX11_toyIs 0 = .ok (.aload_n 0, 1) := by decide +kernel
theorem dX11_toyIs_1 : decode cX11_toyIs 1 = .ok (.iload_n 1, 1) := by decide +kernel
theorem dX11_toyIs_2 : decode cX11_toyIs 2 = .ok (.invokevirtual 151, 3) := by decide +kernel
theorem dX11_toyIs_5 : decode cX11_toyIs 5 = .ok (.astore_n 3, 1) := by decide +kernel
theorem dX11_toyIs_6 : decode cX11_toyIs 6 = .ok (.aload_n 3, 1) := by decide +kernel
theorem dX11_toyIs_7 : decode cX11_toyIs 7 = .ok (.ifnonnull 5, 3) := by decide +kernel
theorem dX11_toyIs_10 : decode cX11_toyIs 10 = .ok (.iconst (-1), 1) := by decide +kernel
theorem dX11_toyIs_11 : decode cX11_toyIs 11 = .ok (.ireturn, 1) := by decide +kernel
theorem dX11_toyIs_12 : decode cX11_toyIs 12 = .ok (.iload_n 2, 1) := by decide +kernel
theorem dX11_toyIs_13 : decode cX11_toyIs 13 = .ok (.tableswitch 118 0 8 #[51, 56, 61, 66, 71, 76, 89, 103, 108], 51) := by decide +kernel
theorem dX11_toyIs_64 : decode cX11_toyIs 64 = .ok (.aload_n 3, 1) := by decide +kernel
theorem dX11_toyIs_65 : decode cX11_toyIs 65 = .ok (.getfield 264, 3) := by decide +kernel
theorem dX11_toyIs_68 : decode cX11_toyIs 68 = .ok (.ireturn, 1) := by decide +kernel
theorem dX11_toyIs_69 : decode cX11_toyIs 69 = .ok (.aload_n 3, 1) := by decide +kernel
theorem dX11_toyIs_70 : decode cX11_toyIs 70 = .ok (.getfield 271, 3) := by decide +kernel
theorem dX11_toyIs_73 : decode cX11_toyIs 73 = .ok (.ireturn, 1) := by decide +kernel
theorem dX11_toyIs_74 : decode cX11_toyIs 74 = .ok (.aload_n 3, 1) := by decide +kernel
theorem dX11_toyIs_75 : decode cX11_toyIs 75 = .ok (.getfield 225, 3) := by decide +kernel
theorem dX11_toyIs_78 : decode cX11_toyIs 78 = .ok (.ireturn, 1) := by decide +kernel
theorem dX11_toyIs_79 : decode cX11_toyIs 79 = .ok (.aload_n 3, 1) := by decide +kernel
theorem dX11_toyIs_80 : decode cX11_toyIs 80 = .ok (.getfield 274, 3) := by decide +kernel
theorem dX11_toyIs_83 : decode cX11_toyIs 83 = .ok (.ireturn, 1) := by decide +kernel
theorem dX11_toyIs_84 : decode cX11_toyIs 84 = .ok (.aload_n 3, 1) := by decide +kernel
theorem dX11_toyIs_85 : decode cX11_toyIs 85 = .ok (.getfield 277, 3) := by decide +kernel
theorem dX11_toyIs_88 : decode cX11_toyIs 88 = .ok (.ireturn, 1) := by decide +kernel
theorem dX11_toyIs_89 : decode cX11_toyIs 89 = .ok (.aload_n 3, 1) := by decide +kernel
theorem dX11_toyIs_90 : decode cX11_toyIs 90 = .ok (.getfield 260, 3) := by decide +kernel
theorem dX11_toyIs_93 : decode cX11_toyIs 93 = .ok (.ifCond .eq 7, 3) := by decide +kernel
theorem dX11_toyIs_96 : decode cX11_toyIs 96 = .ok (.iconst 1, 1) := by decide +kernel
theorem dX11_toyIs_97 : decode cX11_toyIs 97 = .ok (.goto 4, 3) := by decide +kernel
theorem dX11_toyIs_100 : decode cX11_toyIs 100 = .ok (.iconst 0, 1) := by decide +kernel
theorem dX11_toyIs_101 : decode cX11_toyIs 101 = .ok (.ireturn, 1) := by decide +kernel
theorem dX11_toyIs_102 : decode cX11_toyIs 102 = .ok (.aload_n 0, 1) := by decide +kernel
theorem dX11_toyIs_103 : decode cX11_toyIs 103 = .ok (.aload_n 3, 1) := by decide +kernel
theorem dX11_toyIs_104 : decode cX11_toyIs 104 = .ok (.invokevirtual 280, 3) := by decide +kernel
theorem dX11_toyIs_107 : decode cX11_toyIs 107 = .ok (.ifCond .eq 7, 3) := by decide +kernel
theorem dX11_toyIs_110 : decode cX11_toyIs 110 = .ok (.iconst 1, 1) := by decide +kernel
theorem dX11_toyIs_111 : decode cX11_toyIs 111 = .ok (.goto 4, 3) := by decide +kernel
theorem dX11_toyIs_114 : decode cX11_toyIs 114 = .ok (.iconst 0, 1) := by decide +kernel
theorem dX11_toyIs_115 : decode cX11_toyIs 115 = .ok (.ireturn, 1) := by decide +kernel
theorem dX11_toyIs_116 : decode cX11_toyIs 116 = .ok (.aload_n 3, 1) := by decide +kernel
theorem dX11_toyIs_117 : decode cX11_toyIs 117 = .ok (.invokevirtual 265, 3) := by decide +kernel
theorem dX11_toyIs_120 : decode cX11_toyIs 120 = .ok (.ireturn, 1) := by decide +kernel
theorem dX11_toyIs_121 : decode cX11_toyIs 121 = .ok (.aload_n 0, 1) := by decide +kernel
theorem dX11_toyIs_122 : decode cX11_toyIs 122 = .ok (.getfield 145, 3) := by decide +kernel
theorem dX11_toyIs_125 : decode cX11_toyIs 125 = .ok (.aload_n 3, 1) := by decide +kernel
theorem dX11_toyIs_126 : decode cX11_toyIs 126 = .ok (.invokevirtual 284, 3) := by decide +kernel
theorem dX11_toyIs_129 : decode cX11_toyIs 129 = .ok (.iadd, 1) := by decide +kernel
theorem dX11_toyIs_130 : decode cX11_toyIs 130 = .ok (.ireturn, 1) := by decide +kernel
theorem dX11_toyIs_131 : decode cX11_toyIs 131 = .ok (.iload_n 2, 1) := by decide +kernel
theorem dX11_toyIs_132 : decode cX11_toyIs 132 = .ok (.bipush 10, 2) := by decide +kernel
theorem dX11_toyIs_134 : decode cX11_toyIs 134 = .ok (.bipush 15, 2) := by decide +kernel
theorem dX11_toyIs_136 : decode cX11_toyIs 136 = .ok (.invokestatic 99, 3) := by decide +kernel
theorem dX11_toyIs_139 : decode cX11_toyIs 139 = .ok (.ifCond .eq 15, 3) := by decide +kernel
theorem dX11_toyIs_142 : decode cX11_toyIs 142 = .ok (.aload_n 3, 1) := by decide +kernel
theorem dX11_toyIs_143 : decode cX11_toyIs 143 = .ok (.getfield 287, 3) := by decide +kernel
theorem dX11_toyIs_146 : decode cX11_toyIs 146 = .ok (.iload_n 2, 1) := by decide +kernel
theorem dX11_toyIs_147 : decode cX11_toyIs 147 = .ok (.bipush 10, 2) := by decide +kernel
theorem dX11_toyIs_149 : decode cX11_toyIs 149 = .ok (.isub, 1) := by decide +kernel
theorem dX11_toyIs_150 : decode cX11_toyIs 150 = .ok (.iaload, 1) := by decide +kernel
theorem dX11_toyIs_151 : decode cX11_toyIs 151 = .ok (.goto 4, 3) := by decide +kernel
theorem dX11_toyIs_154 : decode cX11_toyIs 154 = .ok (.iconst (-1), 1) := by decide +kernel
theorem dX11_toyIs_155 : decode cX11_toyIs 155 = .ok (.ireturn, 1) := by decide +kernel
theorem dX11_weigh_0 : decode cX11_weigh 0 = .ok (.aload_n 0, 1) := by decide +kernel
theorem dX11_weigh_1 : decode cX11_weigh 1 = .ok (.iload_n 1, 1) := by decide +kernel
theorem dX11_weigh_2 : decode cX11_weigh 2 = .ok (.invokevirtual 151, 3) := by decide +kernel
theorem dX11_weigh_5 : decode cX11_weigh 5 = .ok (.astore 5, 2) := by decide +kernel
theorem dX11_weigh_7 : decode cX11_weigh 7 = .ok (.iload 4, 2) := by decide +kernel
theorem dX11_weigh_9 : decode cX11_weigh 9 = .ok (.iconst 0, 1) := by decide +kernel
theorem dX11_weigh_10 : decode cX11_weigh 10 = .ok (.iconst 3, 1) := by decide +kernel
theorem dX11_weigh_11 : decode cX11_weigh 11 = .ok (.invokestatic 99, 3) := by decide +kernel
theorem dX11_weigh_14 : decode cX11_weigh 14 = .ok (.ifCond .ne 15, 3) := by decide +kernel
theorem dX11_weigh_17 : decode cX11_weigh 17 = .ok (.iload 4, 2) := by decide +kernel
theorem dX11_weigh_19 : decode cX11_weigh 19 = .ok (.bipush 10, 2) := by decide +kernel
theorem dX11_weigh_21 : decode cX11_weigh 21 = .ok (.bipush 15, 2) := by decide +kernel
theorem dX11_weigh_23 : decode cX11_weigh 23 = .ok (.invokestatic 99, 3) := by decide +kernel
theorem dX11_weigh_26 : decode cX11_weigh 26 = .ok (.ifCond .eq 7, 3) := by decide +kernel
theorem dX11_weigh_29 : decode cX11_weigh 29 = .ok (.iconst 1, 1) := by decide +kernel
theorem dX11_weigh_30 : decode cX11_weigh 30 = .ok (.goto 4, 3) := by decide +kernel
theorem dX11_weigh_33 : decode cX11_weigh 33 = .ok (.iconst 0, 1) := by decide +kernel
theorem dX11_weigh_34 : decode cX11_weigh 34 = .ok (.istore 6, 2) := by decide +kernel
theorem dX11_weigh_36 : decode cX11_weigh 36 = .ok (.aload 5, 2) := by decide +kernel
theorem dX11_weigh_38 : decode cX11_weigh 38 = .ok (.ifnull 30, 3) := by decide +kernel
theorem dX11_weigh_41 : decode cX11_weigh 41 = .ok (.iload 6, 2) := by decide +kernel
theorem dX11_weigh_43 : decode cX11_weigh 43 = .ok (.ifCond .eq 25, 3) := by decide +kernel
theorem dX11_weigh_46 : decode cX11_weigh 46 = .ok (.iload_n 2, 1) := by decide +kernel
theorem dX11_weigh_47 : decode cX11_weigh 47 = .ok (.iconst 0, 1) := by decide +kernel
theorem dX11_weigh_48 : decode cX11_weigh 48 = .ok (.ldc_w 290, 3) := by decide +kernel
theorem dX11_weigh_51 : decode cX11_weigh 51 = .ok (.invokestatic 99, 3) := by decide +kernel
theorem dX11_weigh_54 : decode cX11_weigh 54 = .ok (.ifCond .eq 14, 3) := by decide +kernel
theorem dX11_weigh_57 : decode cX11_weigh 57 = .ok (.iload_n 3, 1) := by decide +kernel
theorem dX11_weigh_58 : decode cX11_weigh 58 = .ok (.iconst 0, 1) := by decide +kernel
theorem dX11_weigh_59 : decode cX11_weigh 59 = .ok (.sipush 2000, 3) := by decide +kernel
theorem dX11_weigh_62 : decode cX11_weigh 62 = .ok (.invokestatic 99, 3) := by decide +kernel
theorem dX11_weigh_65 : decode cX11_weigh 65 = .ok (.ifCond .ne 5, 3) := by decide +kernel
theorem dX11_weigh_68 : decode cX11_weigh 68 = .ok (.iconst (-1), 1) := by decide +kernel
theorem dX11_weigh_69 : decode cX11_weigh 69 = .ok (.ireturn, 1) := by decide +kernel
theorem dX11_weigh_70 : decode cX11_weigh 70 = .ok (.aload_n 0, 1) := by decide +kernel
theorem dX11_weigh_71 : decode cX11_weigh 71 = .ok (.getfield 70, 3) := by decide +kernel
theorem dX11_weigh_74 : decode cX11_weigh 74 = .ok (.aload 5, 2) := by decide +kernel
theorem dX11_weigh_76 : decode cX11_weigh 76 = .ok (.aload_n 0, 1) := by decide +kernel
theorem dX11_weigh_77 : decode cX11_weigh 77 = .ok (.getfield 145, 3) := by decide +kernel
theorem dX11_weigh_80 : decode cX11_weigh 80 = .ok (.aload 5, 2) := by decide +kernel
theorem dX11_weigh_82 : decode cX11_weigh 82 = .ok (.invokevirtual 284, 3) := by decide +kernel
theorem dX11_weigh_85 : decode cX11_weigh 85 = .ok (.iadd, 1) := by decide +kernel
theorem dX11_weigh_86 : decode cX11_weigh 86 = .ok (.iload_n 2, 1) := by decide +kernel
theorem dX11_weigh_87 : decode cX11_weigh 87 = .ok (.isub, 1) := by decide +kernel
theorem dX11_weigh_88 : decode cX11_weigh 88 = .ok (.iload_n 3, 1) := by decide +kernel
theorem dX11_weigh_89 : decode cX11_weigh 89 = .ok (.invokevirtual 291, 3) := by decide +kernel
theorem dX11_weigh_92 : decode cX11_weigh 92 = .ok (.aload_n 0, 1) := by decide +kernel
theorem dX11_weigh_93 : decode cX11_weigh 93 = .ok (.getfield 70, 3) := by decide +kernel
theorem dX11_weigh_96 : decode cX11_weigh 96 = .ok (.getfield 295, 3) := by decide +kernel
theorem dX11_weigh_99 : decode cX11_weigh 99 = .ok (.ifCond .ne 8, 3) := by decide +kernel
theorem dX11_weigh_102 : decode cX11_weigh 102 = .ok (.bipush (-2), 2) := by decide +kernel
theorem dX11_weigh_104 : decode cX11_weigh 104 = .ok (.goto 12, 3) := by decide +kernel
theorem dX11_weigh_107 : decode cX11_weigh 107 = .ok (.aload_n 0, 1) := by decide +kernel
theorem dX11_weigh_108 : decode cX11_weigh 108 = .ok (.getfield 70, 3) := by decide +kernel
theorem dX11_weigh_111 : decode cX11_weigh 111 = .ok (.iload 4, 2) := by decide +kernel
theorem dX11_weigh_113 : decode cX11_weigh 113 = .ok (.invokevirtual 298, 3) := by decide +kernel
theorem dX11_weigh_116 : decode cX11_weigh 116 = .ok (.ireturn, 1) := by decide +kernel
theorem dX11_whole_0 : decode cX11_whole 0 = .ok (.aload_n 0, 1) := by decide +kernel
theorem dX11_whole_1 : decode cX11_whole 1 = .ok (.iload_n 1, 1) := by decide +kernel
theorem dX11_whole_2 : decode cX11_whole 2 = .ok (.invokevirtual 119, 3) := by decide +kernel
theorem dX11_whole_5 : decode cX11_whole 5 = .ok (.astore_n 3, 1) := by decide +kernel
theorem dX11_whole_6 : decode cX11_whole 6 = .ok (.aload_n 3, 1) := by decide +kernel
theorem dX11_whole_7 : decode cX11_whole 7 = .ok (.ifnull 12, 3) := by decide +kernel
theorem dX11_whole_10 : decode cX11_whole 10 = .ok (.iload_n 2, 1) := by decide +kernel
theorem dX11_whole_11 : decode cX11_whole 11 = .ok (.iconst 0, 1) := by decide +kernel
theorem dX11_whole_12 : decode cX11_whole 12 = .ok (.iconst 2, 1) := by decide +kernel
theorem dX11_whole_13 : decode cX11_whole 13 = .ok (.invokestatic 99, 3) := by decide +kernel
theorem dX11_whole_16 : decode cX11_whole 16 = .ok (.ifCond .ne 5, 3) := by decide +kernel
theorem dX11_whole_19 : decode cX11_whole 19 = .ok (.iconst (-1), 1) := by decide +kernel
theorem dX11_whole_20 : decode cX11_whole 20 = .ok (.ireturn, 1) := by decide +kernel
theorem dX11_whole_21 : decode cX11_whole 21 = .ok (.aload_n 0, 1) := by decide +kernel
theorem dX11_whole_22 : decode cX11_whole 22 = .ok (.aload_n 3, 1) := by decide +kernel
theorem dX11_whole_23 : decode cX11_whole 23 = .ok (.invokevirtual 302, 3) := by decide +kernel
theorem dX11_whole_26 : decode cX11_whole 26 = .ok (.istore 4, 2) := by decide +kernel
theorem dX11_whole_28 : decode cX11_whole 28 = .ok (.iload_n 2, 1) := by decide +kernel
theorem dX11_whole_29 : decode cX11_whole 29 = .ok (.ifCond .ne 6, 3) := by decide +kernel
theorem dX11_whole_32 : decode cX11_whole 32 = .ok (.iload 4, 2) := by decide +kernel
theorem dX11_whole_34 : decode cX11_whole 34 = .ok (.ireturn, 1) := by decide +kernel
theorem dX11_whole_35 : decode cX11_whole 35 = .ok (.aload_n 0, 1) := by decide +kernel
theorem dX11_whole_36 : decode cX11_whole 36 = .ok (.aload_n 3, 1) := by decide +kernel
theorem dX11_whole_37 : decode cX11_whole 37 = .ok (.iload 4, 2) := by decide +kernel
theorem dX11_whole_39 : decode cX11_whole 39 = .ok (.invokevirtual 306, 3) := by decide +kernel
theorem dX11_whole_42 : decode cX11_whole 42 = .ok (.istore 5, 2) := by decide +kernel
theorem dX11_whole_44 : decode cX11_whole 44 = .ok (.iload_n 2, 1) := by decide +kernel
theorem dX11_whole_45 : decode cX11_whole 45 = .ok (.iconst 1, 1) := by decide +kernel
theorem dX11_whole_46 : decode cX11_whole 46 = .ok (.if_icmp .ne 12, 3) := by decide +kernel
theorem dX11_whole_49 : decode cX11_whole 49 = .ok (.aload_n 0, 1) := by decide +kernel
theorem dX11_whole_50 : decode cX11_whole 50 = .ok (.iload 5, 2) := by decide +kernel
theorem dX11_whole_52 : decode cX11_whole 52 = .ok (.invokevirtual 310, 3) := by decide +kernel
theorem dX11_whole_55 : decode cX11_whole 55 = .ok (.goto 5, 3) := by decide +kernel
theorem dX11_whole_58 : decode cX11_whole 58 = .ok (.iload 5, 2) := by decide +kernel
theorem dX11_whole_60 : decode cX11_whole 60 = .ok (.ireturn, 1) := by decide +kernel
theorem dX11_where_0 : decode cX11_where 0 = .ok (.aload_n 0, 1) := by decide +kernel
theorem dX11_where_1 : decode cX11_where 1 = .ok (.iload_n 1, 1) := by decide +kernel
theorem dX11_where_2 : decode cX11_where 2 = .ok (.invokevirtual 151, 3) := by decide +kernel
theorem dX11_where_5 : decode cX11_where 5 = .ok (.ifnull 26, 3) := by decide +kernel
theorem dX11_where_8 : decode cX11_where 8 = .ok (.iload_n 2, 1) := by decide +kernel
theorem dX11_where_9 : decode cX11_where 9 = .ok (.iconst 0, 1) := by decide +kernel
theorem dX11_where_10 : decode cX11_where 10 = .ok (.aload_n 0, 1) := by decide +kernel
theorem dX11_where_11 : decode cX11_where 11 = .ok (.getfield 95, 3) := by decide +kernel
theorem dX11_where_14 : decode cX11_where 14 = .ok (.invokestatic 99, 3) := by decide +kernel
theorem dX11_where_17 : decode cX11_where 17 = .ok (.ifCond .eq 14, 3) := by decide +kernel
theorem dX11_where_20 : decode cX11_where 20 = .ok (.iload_n 3, 1) := by decide +kernel
theorem dX11_where_21 : decode cX11_where 21 = .ok (.iload_n 2, 1) := by decide +kernel
theorem dX11_where_22 : decode cX11_where 22 = .ok (.sipush 699, 3) := by decide +kernel
theorem dX11_where_25 : decode cX11_where 25 = .ok (.invokestatic 99, 3) := by decide +kernel
theorem dX11_where_28 : decode cX11_where 28 = .ok (.ifCond .ne 5, 3) := by decide +kernel
theorem dX11_where_31 : decode cX11_where 31 = .ok (.iconst (-1), 1) := by decide +kernel
theorem dX11_where_32 : decode cX11_where 32 = .ok (.ireturn, 1) := by decide +kernel
theorem dX11_where_33 : decode cX11_where 33 = .ok (.aload_n 0, 1) := by decide +kernel
theorem dX11_where_34 : decode cX11_where 34 = .ok (.getfield 63, 3) := by decide +kernel
theorem dX11_where_37 : decode cX11_where 37 = .ok (.iload_n 1, 1) := by decide +kernel
theorem dX11_where_38 : decode cX11_where 38 = .ok (.iload_n 2, 1) := by decide +kernel
theorem dX11_where_39 : decode cX11_where 39 = .ok (.iload_n 3, 1) := by decide +kernel
theorem dX11_where_40 : decode cX11_where 40 = .ok (.invokevirtual 313, 3) := by decide +kernel
theorem dX11_where_43 : decode cX11_where 43 = .ok (.ireturn, 1) := by decide +kernel
theorem dX11_rota_0 : decode cX11_rota 0 = .ok (.aload_n 0, 1) := by decide +kernel
theorem dX11_rota_1 : decode cX11_rota 1 = .ok (.iload_n 2, 1) := by decide +kernel
theorem dX11_rota_2 : decode cX11_rota 2 = .ok (.invokevirtual 151, 3) := by decide +kernel
theorem dX11_rota_5 : decode cX11_rota 5 = .ok (.astore_n 3, 1) := by decide +kernel
theorem dX11_rota_6 : decode cX11_rota 6 = .ok (.aload_n 3, 1) := by decide +kernel
theorem dX11_rota_7 : decode cX11_rota 7 = .ok (.ifnull 21, 3) := by decide +kernel
theorem dX11_rota_10 : decode cX11_rota 10 = .ok (.iload_n 1, 1) := by decide +kernel
theorem dX11_rota_11 : decode cX11_rota 11 = .ok (.iconst 1, 1) := by decide +kernel
theorem dX11_rota_12 : decode cX11_rota 12 = .ok (.bipush 9, 2) := by decide +kernel
theorem dX11_rota_14 : decode cX11_rota 14 = .ok (.invokestatic 99, 3) := by decide +kernel
theorem dX11_rota_17 : decode cX11_rota 17 = .ok (.ifCond .eq 11, 3) := by decide +kernel
theorem dX11_rota_20 : decode cX11_rota 20 = .ok (.aload_n 0, 1) := by decide +kernel
theorem dX11_rota_21 : decode cX11_rota 21 = .ok (.aload_n 3, 1) := by decide +kernel
theorem dX11_rota_22 : decode cX11_rota 22 = .ok (.invokevirtual 317, 3) := by decide +kernel
theorem dX11_rota_25 : decode cX11_rota 25 = .ok (.ifCond .ne 5, 3) := by decide +kernel
theorem dX11_rota_28 : decode cX11_rota 28 = .ok (.iconst (-1), 1) := by decide +kernel
theorem dX11_rota_29 : decode cX11_rota 29 = .ok (.ireturn, 1) := by decide +kernel
theorem dX11_rota_30 : decode cX11_rota 30 = .ok (.aload_n 0, 1) := by decide +kernel
theorem dX11_rota_31 : decode cX11_rota 31 = .ok (.getfield 95, 3) := by decide +kernel
theorem dX11_rota_34 : decode cX11_rota 34 = .ok (.aload_n 0, 1) := by decide +kernel
theorem dX11_rota_35 : decode cX11_rota 35 = .ok (.aload_n 3, 1) := by decide +kernel
theorem dX11_rota_36 : decode cX11_rota 36 = .ok (.invokevirtual 320, 3) := by decide +kernel
theorem dX11_rota_39 : decode cX11_rota 39 = .ok (.iload_n 1, 1) := by decide +kernel
theorem dX11_rota_40 : decode cX11_rota 40 = .ok (.idiv, 1) := by decide +kernel
theorem dX11_rota_41 : decode cX11_rota 41 = .ok (.iadd, 1) := by decide +kernel
theorem dX11_rota_42 : decode cX11_rota 42 = .ok (.ireturn, 1) := by decide +kernel
theorem dX11_unwanted_0 : decode cX11_unwanted 0 = .ok (.iload_n 1, 1) := by decide +kernel
theorem dX11_unwanted_1 : decode cX11_unwanted 1 = .ok (.iconst 1, 1) := by decide +kernel
theorem dX11_unwanted_2 : decode cX11_unwanted 2 = .ok (.sipush 700, 3) := by decide +kernel
theorem dX11_unwanted_5 : decode cX11_unwanted 5 = .ok (.invokestatic 99, 3) := by decide +kernel
theorem dX11_unwanted_8 : decode cX11_unwanted 8 = .ok (.ifCond .ne 5, 3) := by decide +kernel
theorem dX11_unwanted_11 : decode cX11_unwanted 11 = .ok (.iconst (-1), 1) := by decide +kernel
theorem dX11_unwanted_12 : decode cX11_unwanted 12 = .ok (.ireturn, 1) := by decide +kernel
theorem dX11_unwanted_13 : decode cX11_unwanted 13 = .ok (.iconst 0, 1) := by decide +kernel
theorem dX11_unwanted_14 : decode cX11_unwanted 14 = .ok (.istore_n 2, 1) := by decide +kernel
theorem dX11_unwanted_15 : decode cX11_unwanted 15 = .ok (.iconst 0, 1) := by decide +kernel
theorem dX11_unwanted_16 : decode cX11_unwanted 16 = .ok (.istore_n 3, 1) := by decide +kernel
theorem dX11_unwanted_17 : decode cX11_unwanted 17 = .ok (.iload_n 3, 1) := by decide +kernel
theorem dX11_unwanted_18 : decode cX11_unwanted 18 = .ok (.aload_n 0, 1) := by decide +kernel
theorem dX11_unwanted_19 : decode cX11_unwanted 19 = .ok (.getfield 35, 3) := by decide +kernel
theorem dX11_unwanted_22 : decode cX11_unwanted 22 = .ok (.invokevirtual 103, 3) := by decide +kernel
theorem dX11_unwanted_25 : decode cX11_unwanted 25 = .ok (.if_icmp .ge 34, 3) := by decide +kernel
theorem dX11_unwanted_28 : decode cX11_unwanted 28 = .ok (.aload_n 0, 1) := by decide +kernel
theorem dX11_unwanted_29 : decode cX11_unwanted 29 = .ok (.aload_n 0, 1) := by decide +kernel
theorem dX11_unwanted_30 : decode cX11_unwanted 30 = .ok (.getfield 35, 3) := by decide +kernel
theorem dX11_unwanted_33 : decode cX11_unwanted 33 = .ok (.iload_n 3, 1) := by decide +kernel
theorem dX11_unwanted_34 : decode cX11_unwanted 34 = .ok (.invokevirtual 324, 3) := by decide +kernel
theorem dX11_unwanted_37 : decode cX11_unwanted 37 = .ok (.checkcast 133, 3) := by decide +kernel
theorem dX11_unwanted_40 : decode cX11_unwanted 40 = .ok (.iload_n 1, 1) := by decide +kernel
theorem dX11_unwanted_41 : decode cX11_unwanted 41 = .ok (.invokevirtual 328, 3) := by decide +kernel
theorem dX11_unwanted_44 : decode cX11_unwanted 44 = .ok (.ifCond .eq 9, 3) := by decide +kernel
theorem dX11_unwanted_47 : decode cX11_unwanted 47 = .ok (.iload_n 2, 1) := by decide +kernel
theorem dX11_unwanted_48 : decode cX11_unwanted 48 = .ok (.iconst 1, 1) := by decide +kernel
theorem dX11_unwanted_49 : decode cX11_unwanted 49 = .ok (.iload_n 3, 1) := by decide +kernel
theorem dX11_unwanted_50 : decode cX11_unwanted 50 = .ok (.ishl, 1) := by decide +kernel
theorem dX11_unwanted_51 : decode cX11_unwanted 51 = .ok (.ior, 1) := by decide +kernel
theorem dX11_unwanted_52 : decode cX11_unwanted 52 = .ok (.istore_n 2, 1) := by decide +kernel
theorem dX11_unwanted_53 : decode cX11_unwanted 53 = .ok (.iinc 3 1, 3) := by decide +kernel
theorem dX11_unwanted_56 : decode cX11_unwanted 56 = .ok (.goto (-39), 3) := by decide +kernel
theorem dX11_unwanted_59 : decode cX11_unwanted 59 = .ok (.iload_n 2, 1) := by decide +kernel
theorem dX11_unwanted_60 : decode cX11_unwanted 60 = .ok (.ireturn, 1) := by decide +kernel
theorem dX11_why_0 : decode cX11_why 0 = .ok (.aload_n 0, 1) := by decide +kernel
theorem dX11_why_1 : decode cX11_why 1 = .ok (.iload_n 1, 1) := by decide +kernel
theorem dX11_why_2 : decode cX11_why 2 = .ok (.invokevirtual 151, 3) := by decide +kernel
theorem dX11_why_5 : decode cX11_why 5 = .ok (.astore_n 3, 1) := by decide +kernel
theorem dX11_why_6 : decode cX11_why 6 = .ok (.aload_n 3, 1) := by decide +kernel
theorem dX11_why_7 : decode cX11_why 7 = .ok (.ifnull 14, 3) := by decide +kernel
theorem dX11_why_10 : decode cX11_why 10 = .ok (.iload_n 2, 1) := by decide +kernel
theorem dX11_why_11 : decode cX11_why 11 = .ok (.iconst 1, 1) := by decide +kernel
theorem dX11_why_12 : decode cX11_why 12 = .ok (.sipush 700, 3) := by decide +kernel
theorem dX11_why_15 : decode cX11_why 15 = .ok (.invokestatic 99, 3) := by decide +kernel
theorem dX11_why_18 : decode cX11_why 18 = .ok (.ifCond .ne 5, 3) := by decide +kernel
theorem dX11_why_21 : decode cX11_why 21 = .ok (.iconst (-1), 1) := by decide +kernel
theorem dX11_why_22 : decode cX11_why 22 = .ok (.ireturn, 1) := by decide +kernel
theorem dX11_why_23 : decode cX11_why 23 = .ok (.aload_n 0, 1) := by decide +kernel
theorem dX11_why_24 : decode cX11_why 24 = .ok (.aload_n 3, 1) := by decide +kernel
theorem dX11_why_25 : decode cX11_why 25 = .ok (.iload_n 2, 1) := by decide +kernel
theorem dX11_why_26 : decode cX11_why 26 = .ok (.invokevirtual 328, 3) := by decide +kernel
theorem dX11_why_29 : decode cX11_why 29 = .ok (.ifCond .eq 11, 3) := by decide +kernel
theorem dX11_why_32 : decode cX11_why 32 = .ok (.aload_n 0, 1) := by decide +kernel
theorem dX11_why_33 : decode cX11_why 33 = .ok (.aload_n 3, 1) := by decide +kernel
theorem dX11_why_34 : decode cX11_why 34 = .ok (.invokevirtual 332, 3) := by decide +kernel
theorem dX11_why_37 : decode cX11_why 37 = .ok (.goto 4, 3) := by decide +kernel
theorem dX11_why_40 : decode cX11_why 40 = .ok (.iconst 0, 1) := by decide +kernel
theorem dX11_why_41 : decode cX11_why 41 = .ok (.ireturn, 1) := by decide +kernel
theorem dX11_waits_0 : decode cX11_waits 0 = .ok (.aload_n 0, 1) := by decide +kernel
theorem dX11_waits_1 : decode cX11_waits 1 = .ok (.iload_n 1, 1) := by decide +kernel
theorem dX11_waits_2 : decode cX11_waits 2 = .ok (.invokevirtual 192, 3) := by decide +kernel
theorem dX11_waits_5 : decode cX11_waits 5 = .ok (.astore_n 3, 1) := by decide +kernel
theorem dX11_waits_6 : decode cX11_waits 6 = .ok (.aload_n 3, 1) := by decide +kernel
theorem dX11_waits_7 : decode cX11_waits 7 = .ok (.ifnull 19, 3) := by decide +kernel
theorem dX11_waits_10 : decode cX11_waits 10 = .ok (.aload_n 0, 1) := by decide +kernel
theorem dX11_waits_11 : decode cX11_waits 11 = .ok (.iload_n 2, 1) := by decide +kernel
theorem dX11_waits_12 : decode cX11_waits 12 = .ok (.invokevirtual 119, 3) := by decide +kernel
theorem dX11_waits_15 : decode cX11_waits 15 = .ok (.ifnull 11, 3) := by decide +kernel
theorem dX11_waits_18 : decode cX11_waits 18 = .ok (.aload_n 3, 1) := by decide +kernel
theorem dX11_waits_19 : decode cX11_waits 19 = .ok (.iload_n 2, 1) := by decide +kernel
theorem dX11_waits_20 : decode cX11_waits 20 = .ok (.invokevirtual 335, 3) := by decide +kernel
theorem dX11_waits_23 : decode cX11_waits 23 = .ok (.ifCond .eq 5, 3) := by decide +kernel
theorem dX11_waits_26 : decode cX11_waits 26 = .ok (.iconst 0, 1) := by decide +kernel
theorem dX11_waits_27 : decode cX11_waits 27 = .ok (.ireturn, 1) := by decide +kernel
theorem dX11_waits_28 : decode cX11_waits 28 = .ok (.aload_n 3, 1) := by decide +kernel
theorem dX11_waits_29 : decode cX11_waits 29 = .ok (.iload_n 2, 1) := by decide +kernel
theorem dX11_waits_30 : decode cX11_waits 30 = .ok (.aload_n 0, 1) := by decide +kernel
theorem dX11_waits_31 : decode cX11_waits 31 = .ok (.getfield 95, 3) := by decide +kernel
theorem dX11_waits_34 : decode cX11_waits 34 = .ok (.invokevirtual 339, 3) := by decide +kernel
theorem dX11_waits_37 : decode cX11_waits 37 = .ok (.aload_n 0, 1) := by decide +kernel
theorem dX11_waits_38 : decode cX11_waits 38 = .ok (.getfield 22, 3) := by decide +kernel
theorem dX11_waits_41 : decode cX11_waits 41 = .ok (.aload_n 0, 1) := by decide +kernel
theorem dX11_waits_42 : decode cX11_waits 42 = .ok (.getfield 95, 3) := by decide +kernel
theorem dX11_waits_45 : decode cX11_waits 45 = .ok (.invokestatic 343, 3) := by decide +kernel
theorem dX11_waits_48 : decode cX11_waits 48 = .ok (.dup2, 1) := by decide +kernel
theorem dX11_waits_49 : decode cX11_waits 49 = .ok (.iaload, 1) := by decide +kernel
theorem dX11_waits_50 : decode cX11_waits 50 = .ok (.iconst 1, 1) := by decide +kernel
theorem dX11_waits_51 : decode cX11_waits 51 = .ok (.iadd, 1) := by decide +kernel
theorem dX11_waits_52 : decode cX11_waits 52 = .ok (.iastore, 1) := by decide +kernel
theorem dX11_waits_53 : decode cX11_waits 53 = .ok (.iconst 1, 1) := by decide +kernel
theorem dX11_waits_54 : decode cX11_waits 54 = .ok (.ireturn, 1) := by decide +kernel
theorem dX11_leaves_0 : decode cX11_leaves 0 = .ok (.aload_n 0, 1) := by decide +kernel
theorem dX11_leaves_1 : decode cX11_leaves 1 = .ok (.iload_n 1, 1) := by decide +kernel
theorem dX11_leaves_2 : decode cX11_leaves 2 = .ok (.invokevirtual 192, 3) := by decide +kernel
theorem dX11_leaves_5 : decode cX11_leaves 5 = .ok (.astore_n 3, 1) := by decide +kernel
theorem dX11_leaves_6 : decode cX11_leaves 6 = .ok (.aload_n 3, 1) := by decide +kernel
theorem dX11_leaves_7 : decode cX11_leaves 7 = .ok (.ifnull 19, 3) := by decide +kernel
theorem dX11_leaves_10 : decode cX11_leaves 10 = .ok (.aload_n 0, 1) := by decide +kernel
theorem dX11_leaves_11 : decode cX11_leaves 11 = .ok (.iload_n 2, 1) := by decide +kernel
theorem dX11_leaves_12 : decode cX11_leaves 12 = .ok (.invokevirtual 119, 3) := by decide +kernel
theorem dX11_leaves_15 : decode cX11_leaves 15 = .ok (.ifnull 11, 3) := by decide +kernel
theorem dX11_leaves_18 : decode cX11_leaves 18 = .ok (.aload_n 3, 1) := by decide +kernel
theorem dX11_leaves_19 : decode cX11_leaves 19 = .ok (.iload_n 2, 1) := by decide +kernel
theorem dX11_leaves_20 : decode cX11_leaves 20 = .ok (.invokevirtual 335, 3) := by decide +kernel
theorem dX11_leaves_23 : decode cX11_leaves 23 = .ok (.ifCond .ne 5, 3) := by decide +kernel
theorem dX11_leaves_26 : decode cX11_leaves 26 = .ok (.iconst 0, 1) := by decide +kernel
theorem dX11_leaves_27 : decode cX11_leaves 27 = .ok (.ireturn, 1) := by decide +kernel
theorem dX11_leaves_28 : decode cX11_leaves 28 = .ok (.aload_n 3, 1) := by decide +kernel
theorem dX11_leaves_29 : decode cX11_leaves 29 = .ok (.iload_n 2, 1) := by decide +kernel
theorem dX11_leaves_30 : decode cX11_leaves 30 = .ok (.invokevirtual 219, 3) := by decide +kernel
theorem dX11_leaves_33 : decode cX11_leaves 33 = .ok (.iconst 1, 1) := by decide +kernel
theorem dX11_leaves_34 : decode cX11_leaves 34 = .ok (.ireturn, 1) := by decide +kernel
theorem dX11_next_0 : decode cX11_next 0 = .ok (.aload_n 0, 1) := by decide +kernel
theorem dX11_next_1 : decode cX11_next 1 = .ok (.iload_n 1, 1) := by decide +kernel
theorem dX11_next_2 : decode cX11_next 2 = .ok (.invokevirtual 119, 3) := by decide +kernel
theorem dX11_next_5 : decode cX11_next 5 = .ok (.astore_n 3, 1) := by decide +kernel
theorem dX11_next_6 : decode cX11_next 6 = .ok (.aload_n 3, 1) := by decide +kernel
theorem dX11_next_7 : decode cX11_next 7 = .ok (.ifnull 12, 3) := by decide +kernel
theorem dX11_next_10 : decode cX11_next 10 = .ok (.iload_n 2, 1) := by decide +kernel
theorem dX11_next_11 : decode cX11_next 11 = .ok (.iconst 0, 1) := by decide +kernel
theorem dX11_next_12 : decode cX11_next 12 = .ok (.iconst 2, 1) := by decide +kernel
theorem dX11_next_13 : decode cX11_next 13 = .ok (.invokestatic 99, 3) := by decide +kernel
theorem dX11_next_16 : decode cX11_next 16 = .ok (.ifCond .ne 7, 3) := by decide +kernel
theorem dX11_next_19 : decode cX11_next 19 = .ok (.ldc_w 346, 3) := by decide +kernel
theorem dX11_next_22 : decode cX11_next 22 = .ok (.ireturn, 1) := by decide +kernel
theorem dX11_next_23 : decode cX11_next 23 = .ok (.iload_n 2, 1) := by decide +kernel
theorem dX11_next_24 : decode cX11_next 24 = .ok (.iconst 2, 1) := by decide +kernel
theorem dX11_next_25 : decode cX11_next 25 = .ok (.if_icmp .ne 9, 3) := by decide +kernel
theorem dX11_next_28 : decode cX11_next 28 = .ok (.aload_n 0, 1) := by decide +kernel
theorem dX11_next_29 : decode cX11_next 29 = .ok (.aload_n 3, 1) := by decide +kernel
theorem dX11_next_30 : decode cX11_next 30 = .ok (.invokevirtual 347, 3) := by decide +kernel
theorem dX11_next_33 : decode cX11_next 33 = .ok (.ireturn, 1) := by decide +kernel
theorem dX11_next_34 : decode cX11_next 34 = .ok (.aload_n 0, 1) := by decide +kernel
theorem dX11_next_35 : decode cX11_next 35 = .ok (.aload_n 3, 1) := by decide +kernel
theorem dX11_next_36 : decode cX11_next 36 = .ok (.invokevirtual 350, 3) := by decide +kernel
theorem dX11_next_39 : decode cX11_next 39 = .ok (.astore 4, 2) := by decide +kernel
theorem dX11_next_41 : decode cX11_next 41 = .ok (.aload 4, 2) := by decide +kernel
theorem dX11_next_43 : decode cX11_next 43 = .ok (.ifnonnull 7, 3) := by decide +kernel
theorem dX11_next_46 : decode cX11_next 46 = .ok (.ldc_w 346, 3) := by decide +kernel
theorem dX11_next_49 : decode cX11_next 49 = .ok (.ireturn, 1) := by decide +kernel
theorem dX11_next_50 : decode cX11_next 50 = .ok (.iload_n 2, 1) := by decide +kernel
theorem dX11_next_51 : decode cX11_next 51 = .ok (.ifCond .ne 11, 3) := by decide +kernel
theorem dX11_next_54 : decode cX11_next 54 = .ok (.aload 4, 2) := by decide +kernel
theorem dX11_next_56 : decode cX11_next 56 = .ok (.getfield 144, 3) := by decide +kernel
theorem dX11_next_59 : decode cX11_next 59 = .ok (.goto 10, 3) := by decide +kernel
theorem dX11_next_62 : decode cX11_next 62 = .ok (.aload_n 0, 1) := by decide +kernel
theorem dX11_next_63 : decode cX11_next 63 = .ok (.aload 4, 2) := by decide +kernel
theorem dX11_next_65 : decode cX11_next 65 = .ok (.aload_n 3, 1) := by decide +kernel
theorem dX11_next_66 : decode cX11_next 66 = .ok (.invokevirtual 354, 3) := by decide +kernel
theorem dX11_next_69 : decode cX11_next 69 = .ok (.ireturn, 1) := by decide +kernel
theorem dX11_buying_0 : decode cX11_buying 0 = .ok (.iload_n 3, 1) := by decide +kernel
theorem dX11_buying_1 : decode cX11_buying 1 = .ok (.iconst (-1), 1) := by decide +kernel
theorem dX11_buying_2 : decode cX11_buying 2 = .ok (.if_icmp .eq 17, 3) := by decide +kernel
theorem dX11_buying_5 : decode cX11_buying 5 = .ok (.iload_n 3, 1) := by decide +kernel
theorem dX11_buying_6 : decode cX11_buying 6 = .ok (.bipush 8, 2) := by decide +kernel
theorem dX11_buying_8 : decode cX11_buying 8 = .ok (.if_icmp .eq 11, 3) := by decide +kernel
theorem dX11_buying_11 : decode cX11_buying 11 = .ok (.aload_n 0, 1) := by decide +kernel
theorem dX11_buying_12 : decode cX11_buying 12 = .ok (.iload_n 3, 1) := by decide +kernel
theorem dX11_buying_13 : decode cX11_buying 13 = .ok (.invokevirtual 119, 3) := by decide +kernel
theorem dX11_buying_16 : decode cX11_buying 16 = .ok (.ifnull 7, 3) := by decide +kernel
theorem dX11_buying_19 : decode cX11_buying 19 = .ok (.iconst 1, 1) := by decide +kernel
theorem dX11_buying_20 : decode cX11_buying 20 = .ok (.goto 4, 3) := by decide +kernel
theorem dX11_buying_23 : decode cX11_buying 23 = .ok (.iconst 0, 1) := by decide +kernel
theorem dX11_buying_24 : decode cX11_buying 24 = .ok (.istore 4, 2) := by decide +kernel
theorem dX11_buying_26 : decode cX11_buying 26 = .ok (.iload 4, 2) := by decide +kernel
theorem dX11_buying_28 : decode cX11_buying 28 = .ok (.ifCond .eq 24, 3) := by decide +kernel
theorem dX11_buying_31 : decode cX11_buying 31 = .ok (.iload_n 1, 1) := by decide +kernel
theorem dX11_buying_32 : decode cX11_buying 32 = .ok (.iconst 0, 1) := by decide +kernel
theorem dX11_buying_33 : decode cX11_buying 33 = .ok (.ldc_w 358, 3) := by decide +kernel
theorem dX11_buying_36 : decode cX11_buying 36 = .ok (.invokestatic 99, 3) := by decide +kernel
theorem dX11_buying_39 : decode cX11_buying 39 = .ok (.ifCond .eq 13, 3) := by decide +kernel
theorem dX11_buying_42 : decode cX11_buying 42 = .ok (.iload_n 2, 1) := by decide +kernel
theorem dX11_buying_43 : decode cX11_buying 43 = .ok (.iconst 1, 1) := by decide +kernel
theorem dX11_buying_44 : decode cX11_buying 44 = .ok (.bipush 99, 2) := by decide +kernel
theorem dX11_buying_46 : decode cX11_buying 46 = .ok (.invokestatic 99, 3) := by decide +kernel
theorem dX11_buying_49 : decode cX11_buying 49 = .ok (.ifCond .ne 5, 3) := by decide +kernel
theorem dX11_buying_52 : decode cX11_buying 52 = .ok (.iconst (-1), 1) := by decide +kernel
theorem dX11_buying_53 : decode cX11_buying 53 = .ok (.ireturn, 1) := by decide +kernel
theorem dX11_buying_54 : decode cX11_buying 54 = .ok (.aload_n 0, 1) := by decide +kernel
theorem dX11_buying_55 : decode cX11_buying 55 = .ok (.getfield 77, 3) := by decide +kernel
theorem dX11_buying_58 : decode cX11_buying 58 = .ok (.iload_n 1, 1) := by decide +kernel
theorem dX11_buying_59 : decode cX11_buying 59 = .ok (.invokevirtual 359, 3) := by decide +kernel
theorem dX11_buying_62 : decode cX11_buying 62 = .ok (.iconst 0, 1) := by decide +kernel
theorem dX11_buying_63 : decode cX11_buying 63 = .ok (.istore 5, 2) := by decide +kernel
theorem dX11_buying_65 : decode cX11_buying 65 = .ok (.iload 5, 2) := by decide +kernel
theorem dX11_buying_67 : decode cX11_buying 67 = .ok (.aload_n 0, 1) := by decide +kernel
theorem dX11_buying_68 : decode cX11_buying 68 = .ok (.getfield 31, 3) := by decide +kernel
theorem dX11_buying_71 : decode cX11_buying 71 = .ok (.invokevirtual 103, 3) := by decide +kernel
theorem dX11_buying_74 : decode cX11_buying 74 = .ok (.if_icmp .ge 48, 3) := by decide +kernel
theorem dX11_buying_77 : decode cX11_buying 77 = .ok (.aload_n 0, 1) := by decide +kernel
theorem dX11_buying_78 : decode cX11_buying 78 = .ok (.getfield 31, 3) := by decide +kernel
theorem dX11_buying_81 : decode cX11_buying 81 = .ok (.iload 5, 2) := by decide +kernel
theorem dX11_buying_83 : decode cX11_buying 83 = .ok (.invokevirtual 324, 3) := by decide +kernel
theorem dX11_buying_86 : decode cX11_buying 86 = .ok (.checkcast 107, 3) := by decide +kernel
theorem dX11_buying_89 : decode cX11_buying 89 = .ok (.astore 6, 2) := by decide +kernel
theorem dX11_buying_91 : decode cX11_buying 91 = .ok (.aload_n 0, 1) := by decide +kernel
theorem dX11_buying_92 : decode cX11_buying 92 = .ok (.getfield 77, 3) := by decide +kernel
theorem dX11_buying_95 : decode cX11_buying 95 = .ok (.aload 6, 2) := by decide +kernel
theorem dX11_buying_97 : decode cX11_buying 97 = .ok (.getfield 362, 3) := by decide +kernel
theorem dX11_buying_100 : decode cX11_buying 100 = .ok (.aload_n 0, 1) := by decide +kernel
theorem dX11_buying_101 : decode cX11_buying 101 = .ok (.aload 6, 2) := by decide +kernel
theorem dX11_buying_103 : decode cX11_buying 103 = .ok (.invokevirtual 347, 3) := by decide +kernel
theorem dX11_buying_106 : decode cX11_buying 106 = .ok (.aload_n 0, 1) := by decide +kernel
theorem dX11_buying_107 : decode cX11_buying 107 = .ok (.aload 6, 2) := by decide +kernel
theorem dX11_buying_109 : decode cX11_buying 109 = .ok (.invokevirtual 365, 3) := by decide +kernel
theorem dX11_buying_112 : decode cX11_buying 112 = .ok (.iload_n 2, 1) := by decide +kernel
theorem dX11_buying_113 : decode cX11_buying 113 = .ok (.invokevirtual 368, 3) := by decide +kernel
theorem dX11_buying_116 : decode cX11_buying 116 = .ok (.iinc 5 1, 3) := by decide +kernel
theorem dX11_buying_119 : decode cX11_buying 119 = .ok (.goto (-54), 3) := by decide +kernel
theorem dX11_buying_122 : decode cX11_buying 122 = .ok (.aload_n 0, 1) := by decide +kernel
theorem dX11_buying_123 : decode cX11_buying 123 = .ok (.getfield 77, 3) := by decide +kernel
theorem dX11_buying_126 : decode cX11_buying 126 = .ok (.invokevirtual 371, 3) := by decide +kernel
theorem dX11_buying_129 : decode cX11_buying 129 = .ok (.iload_n 3, 1) := by decide +kernel
theorem dX11_buying_130 : decode cX11_buying 130 = .ok (.iconst (-1), 1) := by decide +kernel
theorem dX11_buying_131 : decode cX11_buying 131 = .ok (.if_icmp .ne 11, 3) := by decide +kernel
theorem dX11_buying_134 : decode cX11_buying 134 = .ok (.aload_n 0, 1) := by decide +kernel
theorem dX11_buying_135 : decode cX11_buying 135 = .ok (.getfield 77, 3) := by decide +kernel
theorem dX11_buying_138 : decode cX11_buying 138 = .ok (.invokevirtual 373, 3) := by decide +kernel
theorem dX11_buying_141 : decode cX11_buying 141 = .ok (.ireturn, 1) := by decide +kernel
theorem dX11_buying_142 : decode cX11_buying 142 = .ok (.iload_n 3, 1) := by decide +kernel
theorem dX11_buying_143 : decode cX11_buying 143 = .ok (.bipush 8, 2) := by decide +kernel
theorem dX11_buying_145 : decode cX11_buying 145 = .ok (.if_icmp .ne 13, 3) := by decide +kernel
theorem dX11_buying_148 : decode cX11_buying 148 = .ok (.aload_n 0, 1) := by decide +kernel
theorem dX11_buying_149 : decode cX11_buying 149 = .ok (.getfield 77, 3) := by decide +kernel
theorem dX11_buying_152 : decode cX11_buying 152 = .ok (.getfield 376, 3) := by decide +kernel
theorem dX11_buying_155 : decode cX11_buying 155 = .ok (.goto 11, 3) := by decide +kernel
theorem dX11_buying_158 : decode cX11_buying 158 = .ok (.aload_n 0, 1) := by decide +kernel
theorem dX11_buying_159 : decode cX11_buying 159 = .ok (.getfield 77, 3) := by decide +kernel
theorem dX11_buying_162 : decode cX11_buying 162 = .ok (.iload_n 3, 1) := by decide +kernel
theorem dX11_buying_163 : decode cX11_buying 163 = .ok (.invokevirtual 379, 3) := by decide +kernel
theorem dX11_buying_166 : decode cX11_buying 166 = .ok (.ireturn, 1) := by decide +kernel
theorem dX11_van_0 : decode cX11_van 0 = .ok (.iload_n 1, 1) := by decide +kernel
theorem dX11_van_1 : decode cX11_van 1 = .ok (.iconst 0, 1) := by decide +kernel
theorem dX11_van_2 : decode cX11_van 2 = .ok (.iconst 4, 1) := by decide +kernel
theorem dX11_van_3 : decode cX11_van 3 = .ok (.invokestatic 99, 3) := by decide +kernel
theorem dX11_van_6 : decode cX11_van 6 = .ok (.ifCond .eq 22, 3) := by decide +kernel
theorem dX11_van_9 : decode cX11_van 9 = .ok (.iload_n 2, 1) := by decide +kernel
theorem dX11_van_10 : decode cX11_van 10 = .ok (.iconst 1, 1) := by decide +kernel
theorem dX11_van_11 : decode cX11_van 11 = .ok (.bipush 6, 2) := by decide +kernel
theorem dX11_van_13 : decode cX11_van 13 = .ok (.invokestatic 99, 3) := by decide +kernel
theorem dX11_van_16 : decode cX11_van 16 = .ok (.ifCond .eq 12, 3) := by decide +kernel
theorem dX11_van_19 : decode cX11_van 19 = .ok (.iload_n 3, 1) := by decide +kernel
theorem dX11_van_20 : decode cX11_van 20 = .ok (.iconst 0, 1) := by decide +kernel
theorem dX11_van_21 : decode cX11_van 21 = .ok (.iconst 1, 1) := by decide +kernel
theorem dX11_van_22 : decode cX11_van 22 = .ok (.invokestatic 99, 3) := by decide +kernel
theorem dX11_van_25 : decode cX11_van 25 = .ok (.ifCond .ne 5, 3) := by decide +kernel
theorem dX11_van_28 : decode cX11_van 28 = .ok (.iconst (-1), 1) := by decide +kernel
theorem dX11_van_29 : decode cX11_van 29 = .ok (.ireturn, 1) := by decide +kernel
theorem dX11_van_30 : decode cX11_van 30 = .ok (.iconst 0, 1) := by decide +kernel
theorem dX11_van_31 : decode cX11_van 31 = .ok (.istore 4, 2) := by decide +kernel
theorem dX11_van_33 : decode cX11_van 33 = .ok (.iload 4, 2) := by decide +kernel
theorem dX11_van_35 : decode cX11_van 35 = .ok (.aload_n 0, 1) := by decide +kernel
theorem dX11_van_36 : decode cX11_van 36 = .ok (.getfield 35, 3) := by decide +kernel
theorem dX11_van_39 : decode cX11_van 39 = .ok (.invokevirtual 103, 3) := by decide +kernel
theorem dX11_van_42 : decode cX11_van 42 = .ok (.if_icmp .ge 35, 3) := by decide +kernel
theorem dX11_van_45 : decode cX11_van 45 = .ok (.aload_n 0, 1) := by decide +kernel
theorem dX11_van_46 : decode cX11_van 46 = .ok (.getfield 91, 3) := by decide +kernel
theorem dX11_van_49 : decode cX11_van 49 = .ok (.iload 4, 2) := by decide +kernel
theorem dX11_van_51 : decode cX11_van 51 = .ok (.aload_n 0, 1) := by decide +kernel
theorem dX11_van_52 : decode cX11_van 52 = .ok (.aload_n 0, 1) := by decide +kernel
theorem dX11_van_53 : decode cX11_van 53 = .ok (.getfield 35, 3) := by decide +kernel
theorem dX11_van_56 : decode cX11_van 56 = .ok (.iload 4, 2) := by decide +kernel
theorem dX11_van_58 : decode cX11_van 58 = .ok (.invokevirtual 324, 3) := by decide +kernel
theorem dX11_van_61 : decode cX11_van 61 = .ok (.checkcast 133, 3) := by decide +kernel
theorem dX11_van_64 : decode cX11_van 64 = .ok (.iload_n 1, 1) := by decide +kernel
theorem dX11_van_65 : decode cX11_van 65 = .ok (.invokevirtual 382, 3) := by decide +kernel
theorem dX11_van_68 : decode cX11_van 68 = .ok (.invokevirtual 385, 3) := by decide +kernel
theorem dX11_van_71 : decode cX11_van 71 = .ok (.iinc 4 1, 3) := by decide +kernel
theorem dX11_van_74 : decode cX11_van 74 = .ok (.goto (-41), 3) := by decide +kernel
theorem dX11_van_77 : decode cX11_van 77 = .ok (.aload_n 0, 1) := by decide +kernel
theorem dX11_van_78 : decode cX11_van 78 = .ok (.getfield 91, 3) := by decide +kernel
theorem dX11_van_81 : decode cX11_van 81 = .ok (.aload_n 0, 1) := by decide +kernel
theorem dX11_van_82 : decode cX11_van 82 = .ok (.getfield 35, 3) := by decide +kernel
theorem dX11_van_85 : decode cX11_van 85 = .ok (.invokevirtual 103, 3) := by decide +kernel
theorem dX11_van_88 : decode cX11_van 88 = .ok (.iload_n 2, 1) := by decide +kernel
theorem dX11_van_89 : decode cX11_van 89 = .ok (.invokevirtual 388, 3) := by decide +kernel
theorem dX11_van_92 : decode cX11_van 92 = .ok (.istore 4, 2) := by decide +kernel
theorem dX11_van_94 : decode cX11_van 94 = .ok (.iload_n 3, 1) := by decide +kernel
theorem dX11_van_95 : decode cX11_van 95 = .ok (.ifCond .ne 8, 3) := by decide +kernel
theorem dX11_van_98 : decode cX11_van 98 = .ok (.iload 4, 2) := by decide +kernel
theorem dX11_van_100 : decode cX11_van 100 = .ok (.goto 8, 3) := by decide +kernel
theorem dX11_van_103 : decode cX11_van 103 = .ok (.iload 4, 2) := by decide +kernel
theorem dX11_van_105 : decode cX11_van 105 = .ok (.invokestatic 391, 3) := by decide +kernel
theorem dX11_van_108 : decode cX11_van 108 = .ok (.ireturn, 1) := by decide +kernel
theorem dX11_mending_0 : decode cX11_mending 0 = .ok (.iload_n 1, 1) := by decide +kernel
theorem dX11_mending_1 : decode cX11_mending 1 = .ok (.iconst 0, 1) := by decide +kernel
theorem dX11_mending_2 : decode cX11_mending 2 = .ok (.sipush 6000, 3) := by decide +kernel
theorem dX11_mending_5 : decode cX11_mending 5 = .ok (.invokestatic 99, 3) := by decide +kernel
theorem dX11_mending_8 : decode cX11_mending 8 = .ok (.ifCond .eq 12, 3) := by decide +kernel
theorem dX11_mending_11 : decode cX11_mending 11 = .ok (.iload_n 2, 1) := by decide +kernel
theorem dX11_mending_12 : decode cX11_mending 12 = .ok (.iconst 0, 1) := by decide +kernel
theorem dX11_mending_13 : decode cX11_mending 13 = .ok (.iconst 2, 1) := by decide +kernel
theorem dX11_mending_14 : decode cX11_mending 14 = .ok (.invokestatic 99, 3) := by decide +kernel
theorem dX11_mending_17 : decode cX11_mending 17 = .ok (.ifCond .ne 5, 3) := by decide +kernel
theorem dX11_mending_20 : decode cX11_mending 20 = .ok (.iconst (-1), 1) := by decide +kernel
theorem dX11_mending_21 : decode cX11_mending 21 = .ok (.ireturn, 1) := by decide +kernel
theorem dX11_mending_22 : decode cX11_mending 22 = .ok (.aload_n 0, 1) := by decide +kernel
theorem dX11_mending_23 : decode cX11_mending 23 = .ok (.getfield 84, 3) := by decide +kernel
theorem dX11_mending_26 : decode cX11_mending 26 = .ok (.iload_n 1, 1) := by decide +kernel
theorem dX11_mending_27 : decode cX11_mending 27 = .ok (.invokevirtual 396, 3) := by decide +kernel
theorem dX11_mending_30 : decode cX11_mending 30 = .ok (.iconst 0, 1) := by decide +kernel
theorem dX11_mending_31 : decode cX11_mending 31 = .ok (.istore_n 3, 1) := by decide +kernel
theorem dX11_mending_32 : decode cX11_mending 32 = .ok (.iload_n 3, 1) := by decide +kernel
theorem dX11_mending_33 : decode cX11_mending 33 = .ok (.aload_n 0, 1) := by decide +kernel
theorem dX11_mending_34 : decode cX11_mending 34 = .ok (.getfield 35, 3) := by decide +kernel
theorem dX11_mending_37 : decode cX11_mending 37 = .ok (.invokevirtual 103, 3) := by decide +kernel
theorem dX11_mending_40 : decode cX11_mending 40 = .ok (.if_icmp .ge 66, 3) := by decide +kernel
theorem dX11_mending_43 : decode cX11_mending 43 = .ok (.aload_n 0, 1) := by decide +kernel
theorem dX11_mending_44 : decode cX11_mending 44 = .ok (.getfield 35, 3) := by decide +kernel
theorem dX11_mending_47 : decode cX11_mending 47 = .ok (.iload_n 3, 1) := by decide +kernel
theorem dX11_mending_48 : decode cX11_mending 48 = .ok (.invokevirtual 324, 3) := by decide +kernel
theorem dX11_mending_51 : decode cX11_mending 51 = .ok (.checkcast 133, 3) := by decide +kernel
theorem dX11_mending_54 : decode cX11_mending 54 = .ok (.astore 4, 2) := by decide +kernel
theorem dX11_mending_56 : decode cX11_mending 56 = .ok (.aload 4, 2) := by decide +kernel
theorem dX11_mending_58 : decode cX11_mending 58 = .ok (.getfield 264, 3) := by decide +kernel
theorem dX11_mending_61 : decode cX11_mending 61 = .ok (.ifCond .ne 39, 3) := by decide +kernel
theorem dX11_mending_64 : decode cX11_mending 64 = .ok (.aload 4, 2) := by decide +kernel
theorem dX11_mending_66 : decode cX11_mending 66 = .ok (.invokevirtual 265, 3) := by decide +kernel
theorem dX11_mending_69 : decode cX11_mending 69 = .ok (.ifCond .le 31, 3) := by decide +kernel
theorem dX11_mending_72 : decode cX11_mending 72 = .ok (.aload_n 0, 1) := by decide +kernel
theorem dX11_mending_73 : decode cX11_mending 73 = .ok (.getfield 84, 3) := by decide +kernel
theorem dX11_mending_76 : decode cX11_mending 76 = .ok (.iload_n 3, 1) := by decide +kernel
theorem dX11_mending_77 : decode cX11_mending 77 = .ok (.aload 4, 2) := by decide +kernel
theorem dX11_mending_79 : decode cX11_mending 79 = .ok (.aload_n 0, 1) := by decide +kernel
theorem dX11_mending_80 : decode cX11_mending 80 = .ok (.getfield 13, 3) := by decide +kernel
theorem dX11_mending_83 : decode cX11_mending 83 = .ok (.invokevirtual 397, 3) := by decide +kernel
theorem dX11_mending_86 : decode cX11_mending 86 = .ok (.aload_n 0, 1) := by decide +kernel
theorem dX11_mending_87 : decode cX11_mending 87 = .ok (.aload 4, 2) := by decide +kernel
theorem dX11_mending_89 : decode cX11_mending 89 = .ok (.getfield 203, 3) := by decide +kernel
theorem dX11_mending_92 : decode cX11_mending 92 = .ok (.invokevirtual 347, 3) := by decide +kernel
theorem dX11_mending_95 : decode cX11_mending 95 = .ok (.iconst 1, 1) := by decide +kernel
theorem dX11_mending_96 : decode cX11_mending 96 = .ok (.iadd, 1) := by decide +kernel
theorem dX11_mending_97 : decode cX11_mending 97 = .ok (.invokevirtual 401, 3) := by decide +kernel
theorem dX11_mending_100 : decode cX11_mending 100 = .ok (.iinc 3 1, 3) := by decide +kernel
theorem dX11_mending_103 : decode cX11_mending 103 = .ok (.goto (-71), 3) := by decide +kernel
theorem dX11_mending_106 : decode cX11_mending 106 = .ok (.aload_n 0, 1) := by decide +kernel
theorem dX11_mending_107 : decode cX11_mending 107 = .ok (.getfield 84, 3) := by decide +kernel
theorem dX11_mending_110 : decode cX11_mending 110 = .ok (.invokevirtual 403, 3) := by decide +kernel
theorem dX11_mending_113 : decode cX11_mending 113 = .ok (.iload_n 2, 1) := by decide +kernel
theorem dX11_mending_114 : decode cX11_mending 114 = .ok (.ifCond .ne 11, 3) := by decide +kernel
theorem dX11_mending_117 : decode cX11_mending 117 = .ok (.aload_n 0, 1) := by decide +kernel
theorem dX11_mending_118 : decode cX11_mending 118 = .ok (.getfield 84, 3) := by decide +kernel
theorem dX11_mending_121 : decode cX11_mending 121 = .ok (.getfield 404, 3) := by decide +kernel
theorem dX11_mending_124 : decode cX11_mending 124 = .ok (.ireturn, 1) := by decide +kernel
theorem dX11_mending_125 : decode cX11_mending 125 = .ok (.iload_n 2, 1) := by decide +kernel
theorem dX11_mending_126 : decode cX11_mending 126 = .ok (.iconst 1, 1) := by decide +kernel
theorem dX11_mending_127 : decode cX11_mending 127 = .ok (.if_icmp .ne 13, 3) := by decide +kernel
theorem dX11_mending_130 : decode cX11_mending 130 = .ok (.aload_n 0, 1) := by decide +kernel
theorem dX11_mending_131 : decode cX11_mending 131 = .ok (.getfield 84, 3) := by decide +kernel
theorem dX11_mending_134 : decode cX11_mending 134 = .ok (.getfield 407, 3) := by decide +kernel
theorem dX11_mending_137 : decode cX11_mending 137 = .ok (.goto 10, 3) := by decide +kernel
theorem dX11_mending_140 : decode cX11_mending 140 = .ok (.aload_n 0, 1) := by decide +kernel
theorem dX11_mending_141 : decode cX11_mending 141 = .ok (.getfield 84, 3) := by decide +kernel
theorem dX11_mending_144 : decode cX11_mending 144 = .ok (.getfield 410, 3) := by decide +kernel
theorem dX11_mending_147 : decode cX11_mending 147 = .ok (.ireturn, 1) := by decide +kernel
theorem dX11_peak_0 : decode cX11_peak 0 = .ok (.iload_n 1, 1) := by decide +kernel
theorem dX11_peak_1 : decode cX11_peak 1 = .ok (.iconst 0, 1) := by decide +kernel
theorem dX11_peak_2 : decode cX11_peak 2 = .ok (.iconst 1, 1) := by decide +kernel
theorem dX11_peak_3 : decode cX11_peak 3 = .ok (.invokestatic 99, 3) := by decide +kernel
theorem dX11_peak_6 : decode cX11_peak 6 = .ok (.ifCond .ne 5, 3) := by decide +kernel
theorem dX11_peak_9 : decode cX11_peak 9 = .ok (.iconst (-1), 1) := by decide +kernel
theorem dX11_peak_10 : decode cX11_peak 10 = .ok (.ireturn, 1) := by decide +kernel
theorem dX11_peak_11 : decode cX11_peak 11 = .ok (.iconst 0, 1) := by decide +kernel
theorem dX11_peak_12 : decode cX11_peak 12 = .ok (.istore_n 2, 1) := by decide +kernel
