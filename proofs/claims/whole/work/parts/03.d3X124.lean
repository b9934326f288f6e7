theorem dX12_check_32 : decode cX12_check 32 = .ok (.istore_n 3, 1) := by decide +kernel
theorem dX12_check_33 : decode cX12_check 33 = .ok (.iconst 0, 1) := by decide +kernel
theorem dX12_check_34 : decode cX12_check 34 = .ok (.istore 4, 2) := by decide +kernel
theorem dX12_check_36 : decode cX12_check 36 = .ok (.iload 4, 2) := by decide +kernel
theorem dX12_check_38 : decode cX12_check 38 = .ok (.bipush 6, 2) := by decide +kernel
theorem dX12_check_40 : decode cX12_check 40 = .ok (.if_icmp .ge 90, 3) := by decide +kernel
theorem dX12_check_43 : decode cX12_check 43 = .ok (.aload_n 0, 1) := by decide +kernel
theorem dX12_check_44 : decode cX12_check 44 = .ok (.getfield 29, 3) := by decide +kernel
theorem dX12_check_47 : decode cX12_check 47 = .ok (.bipush 6, 2) := by decide +kernel
theorem dX12_check_49 : decode cX12_check 49 = .ok (.aload_n 0, 1) := by decide +kernel
theorem dX12_check_50 : decode cX12_check 50 = .ok (.getfield 35, 3) := by decide +kernel
theorem dX12_check_53 : decode cX12_check 53 = .ok (.iload_n 1, 1) := by decide +kernel
theorem dX12_check_54 : decode cX12_check 54 = .ok (.iaload, 1) := by decide +kernel
theorem dX12_check_55 : decode cX12_check 55 = .ok (.imul, 1) := by decide +kernel
theorem dX12_check_56 : decode cX12_check 56 = .ok (.iload 4, 2) := by decide +kernel
theorem dX12_check_58 : decode cX12_check 58 = .ok (.iadd, 1) := by decide +kernel
theorem dX12_check_59 : decode cX12_check 59 = .ok (.iaload, 1) := by decide +kernel
theorem dX12_check_60 : decode cX12_check 60 = .ok (.ifCond .ne 6, 3) := by decide +kernel
theorem dX12_check_63 : decode cX12_check 63 = .ok (.goto 61, 3) := by decide +kernel
theorem dX12_check_66 : decode cX12_check 66 = .ok (.iload_n 3, 1) := by decide +kernel
theorem dX12_check_67 : decode cX12_check 67 = .ok (.iload_n 2, 1) := by decide +kernel
theorem dX12_check_68 : decode cX12_check 68 = .ok (.if_icmp .ne 7, 3) := by decide +kernel
theorem dX12_check_71 : decode cX12_check 71 = .ok (.iconst 2, 1) := by decide +kernel
theorem dX12_check_72 : decode cX12_check 72 = .ok (.iload_n 2, 1) := by decide +kernel
theorem dX12_check_73 : decode cX12_check 73 = .ok (.imul, 1) := by decide +kernel
theorem dX12_check_74 : decode cX12_check 74 = .ok (.ireturn, 1) := by decide +kernel
theorem dX12_check_75 : decode cX12_check 75 = .ok (.aload_n 0, 1) := by decide +kernel
theorem dX12_check_76 : decode cX12_check 76 = .ok (.iconst 2, 1) := by decide +kernel
theorem dX12_check_77 : decode cX12_check 77 = .ok (.iload_n 3, 1) := by decide +kernel
theorem dX12_check_78 : decode cX12_check 78 = .ok (.imul, 1) := by decide +kernel
theorem dX12_check_79 : decode cX12_check 79 = .ok (.invokevirtual 561, 3) := by decide +kernel
theorem dX12_check_82 : decode cX12_check 82 = .ok (.iload 4, 2) := by decide +kernel
theorem dX12_check_84 : decode cX12_check 84 = .ok (.if_icmp .eq 7, 3) := by decide +kernel
theorem dX12_check_87 : decode cX12_check 87 = .ok (.iconst 2, 1) := by decide +kernel
theorem dX12_check_88 : decode cX12_check 88 = .ok (.iload_n 3, 1) := by decide +kernel
theorem dX12_check_89 : decode cX12_check 89 = .ok (.imul, 1) := by decide +kernel
theorem dX12_check_90 : decode cX12_check 90 = .ok (.ireturn, 1) := by decide +kernel
theorem dX12_check_91 : decode cX12_check 91 = .ok (.aload_n 0, 1) := by decide +kernel
theorem dX12_check_92 : decode cX12_check 92 = .ok (.iconst 2, 1) := by decide +kernel
theorem dX12_check_93 : decode cX12_check 93 = .ok (.iload_n 3, 1) := by decide +kernel
theorem dX12_check_94 : decode cX12_check 94 = .ok (.imul, 1) := by decide +kernel
theorem dX12_check_95 : decode cX12_check 95 = .ok (.iconst 1, 1) := by decide +kernel
theorem dX12_check_96 : decode cX12_check 96 = .ok (.iadd, 1) := by decide +kernel
theorem dX12_check_97 : decode cX12_check 97 = .ok (.invokevirtual 561, 3) := by decide +kernel
theorem dX12_check_100 : decode cX12_check 100 = .ok (.aload_n 0, 1) := by decide +kernel
theorem dX12_check_101 : decode cX12_check 101 = .ok (.getfield 66, 3) := by decide +kernel
theorem dX12_check_104 : decode cX12_check 104 = .ok (.bipush 6, 2) := by decide +kernel
theorem dX12_check_106 : decode cX12_check 106 = .ok (.iload_n 1, 1) := by decide +kernel
theorem dX12_check_107 : decode cX12_check 107 = .ok (.imul, 1) := by decide +kernel
theorem dX12_check_108 : decode cX12_check 108 = .ok (.iload 4, 2) := by decide +kernel
theorem dX12_check_110 : decode cX12_check 110 = .ok (.iadd, 1) := by decide +kernel
theorem dX12_check_111 : decode cX12_check 111 = .ok (.iaload, 1) := by decide +kernel
theorem dX12_check_112 : decode cX12_check 112 = .ok (.if_icmp .eq 9, 3) := by decide +kernel
theorem dX12_check_115 : decode cX12_check 115 = .ok (.iconst 2, 1) := by decide +kernel
theorem dX12_check_116 : decode cX12_check 116 = .ok (.iload_n 3, 1) := by decide +kernel
theorem dX12_check_117 : decode cX12_check 117 = .ok (.imul, 1) := by decide +kernel
theorem dX12_check_118 : decode cX12_check 118 = .ok (.iconst 1, 1) := by decide +kernel
theorem dX12_check_119 : decode cX12_check 119 = .ok (.iadd, 1) := by decide +kernel
theorem dX12_check_120 : decode cX12_check 120 = .ok (.ireturn, 1) := by decide +kernel
theorem dX12_check_121 : decode cX12_check 121 = .ok (.iinc 3 1, 3) := by decide +kernel
theorem dX12_check_124 : decode cX12_check 124 = .ok (.iinc 4 1, 3) := by decide +kernel
theorem dX12_check_127 : decode cX12_check 127 = .ok (.goto (-91), 3) := by decide +kernel
theorem dX12_check_130 : decode cX12_check 130 = .ok (.iload_n 3, 1) := by decide +kernel
theorem dX12_check_131 : decode cX12_check 131 = .ok (.iload_n 2, 1) := by decide +kernel
theorem dX12_check_132 : decode cX12_check 132 = .ok (.if_icmp .ne 7, 3) := by decide +kernel
theorem dX12_check_135 : decode cX12_check 135 = .ok (.iconst (-1), 1) := by decide +kernel
theorem dX12_check_136 : decode cX12_check 136 = .ok (.goto 6, 3) := by decide +kernel
theorem dX12_check_139 : decode cX12_check 139 = .ok (.iconst 2, 1) := by decide +kernel
theorem dX12_check_140 : decode cX12_check 140 = .ok (.iload_n 3, 1) := by decide +kernel
theorem dX12_check_141 : decode cX12_check 141 = .ok (.imul, 1) := by decide +kernel
theorem dX12_check_142 : decode cX12_check 142 = .ok (.ireturn, 1) := by decide +kernel
theorem dX12_count_0 : decode cX12_count 0 = .ok (.aload_n 0, 1) := by decide +kernel
theorem dX12_count_1 : decode cX12_count 1 = .ok (.iload_n 1, 1) := by decide +kernel
theorem dX12_count_2 : decode cX12_count 2 = .ok (.bipush 10, 2) := by decide +kernel
theorem dX12_count_4 : decode cX12_count 4 = .ok (.isub, 1) := by decide +kernel
theorem dX12_count_5 : decode cX12_count 5 = .ok (.invokevirtual 230, 3) := by decide +kernel
theorem dX12_count_8 : decode cX12_count 8 = .ok (.ifCond .eq 12, 3) := by decide +kernel
theorem dX12_count_11 : decode cX12_count 11 = .ok (.aload_n 0, 1) := by decide +kernel
theorem dX12_count_12 : decode cX12_count 12 = .ok (.iload_n 1, 1) := by decide +kernel
theorem dX12_count_13 : decode cX12_count 13 = .ok (.bipush 10, 2) := by decide +kernel
theorem dX12_count_15 : decode cX12_count 15 = .ok (.isub, 1) := by decide +kernel
theorem dX12_count_16 : decode cX12_count 16 = .ok (.invokevirtual 400, 3) := by decide +kernel
theorem dX12_count_19 : decode cX12_count 19 = .ok (.ireturn, 1) := by decide +kernel
theorem dX12_count_20 : decode cX12_count 20 = .ok (.aload_n 0, 1) := by decide +kernel
theorem dX12_count_21 : decode cX12_count 21 = .ok (.iload_n 1, 1) := by decide +kernel
theorem dX12_count_22 : decode cX12_count 22 = .ok (.bipush 20, 2) := by decide +kernel
theorem dX12_count_24 : decode cX12_count 24 = .ok (.isub, 1) := by decide +kernel
theorem dX12_count_25 : decode cX12_count 25 = .ok (.invokevirtual 435, 3) := by decide +kernel
theorem dX12_count_28 : decode cX12_count 28 = .ok (.ifCond .eq 12, 3) := by decide +kernel
theorem dX12_count_31 : decode cX12_count 31 = .ok (.aload_n 0, 1) := by decide +kernel
theorem dX12_count_32 : decode cX12_count 32 = .ok (.iload_n 1, 1) := by decide +kernel
theorem dX12_count_33 : decode cX12_count 33 = .ok (.bipush 20, 2) := by decide +kernel
theorem dX12_count_35 : decode cX12_count 35 = .ok (.isub, 1) := by decide +kernel
theorem dX12_count_36 : decode cX12_count 36 = .ok (.invokevirtual 397, 3) := by decide +kernel
theorem dX12_count_39 : decode cX12_count 39 = .ok (.ireturn, 1) := by decide +kernel
theorem dX12_count_40 : decode cX12_count 40 = .ok (.iload_n 1, 1) := by decide +kernel
theorem dX12_count_41 : decode cX12_count 41 = .ok (.tableswitch 96 0 8 #[51, 56, 61, 66, 71, 76, 81, 86, 91], 51) := by decide +kernel
theorem dX12_count_92 : decode cX12_count 92 = .ok (.aload_n 0, 1) := by decide +kernel
theorem dX12_count_93 : decode cX12_count 93 = .ok (.getfield 219, 3) := by decide +kernel
theorem dX12_count_96 : decode cX12_count 96 = .ok (.ireturn, 1) := by decide +kernel
theorem dX12_count_97 : decode cX12_count 97 = .ok (.aload_n 0, 1) := by decide +kernel
theorem dX12_count_98 : decode cX12_count 98 = .ok (.getfield 207, 3) := by decide +kernel
theorem dX12_count_101 : decode cX12_count 101 = .ok (.ireturn, 1) := by decide +kernel
theorem dX12_count_102 : decode cX12_count 102 = .ok (.aload_n 0, 1) := by decide +kernel
theorem dX12_count_103 : decode cX12_count 103 = .ok (.getfield 211, 3) := by decide +kernel
theorem dX12_count_106 : decode cX12_count 106 = .ok (.ireturn, 1) := by decide +kernel
theorem dX12_count_107 : decode cX12_count 107 = .ok (.aload_n 0, 1) := by decide +kernel
theorem dX12_count_108 : decode cX12_count 108 = .ok (.getfield 214, 3) := by decide +kernel
theorem dX12_count_111 : decode cX12_count 111 = .ok (.ireturn, 1) := by decide +kernel
theorem dX12_count_112 : decode cX12_count 112 = .ok (.aload_n 0, 1) := by decide +kernel
theorem dX12_count_113 : decode cX12_count 113 = .ok (.getfield 375, 3) := by decide +kernel
theorem dX12_count_116 : decode cX12_count 116 = .ok (.ireturn, 1) := by decide +kernel
theorem dX12_count_117 : decode cX12_count 117 = .ok (.aload_n 0, 1) := by decide +kernel
theorem dX12_count_118 : decode cX12_count 118 = .ok (.getfield 255, 3) := by decide +kernel
theorem dX12_count_121 : decode cX12_count 121 = .ok (.ireturn, 1) := by decide +kernel
theorem dX12_count_122 : decode cX12_count 122 = .ok (.aload_n 0, 1) := by decide +kernel
theorem dX12_count_123 : decode cX12_count 123 = .ok (.getfield 419, 3) := by decide +kernel
theorem dX12_count_126 : decode cX12_count 126 = .ok (.ireturn, 1) := by decide +kernel
theorem dX12_count_127 : decode cX12_count 127 = .ok (.aload_n 0, 1) := by decide +kernel
theorem dX12_count_128 : decode cX12_count 128 = .ok (.getfield 426, 3) := by decide +kernel
theorem dX12_count_131 : decode cX12_count 131 = .ok (.ireturn, 1) := by decide +kernel
theorem dX12_count_132 : decode cX12_count 132 = .ok (.aload_n 0, 1) := by decide +kernel
theorem dX12_count_133 : decode cX12_count 133 = .ok (.getfield 449, 3) := by decide +kernel
theorem dX12_count_136 : decode cX12_count 136 = .ok (.ireturn, 1) := by decide +kernel
theorem dX12_count_137 : decode cX12_count 137 = .ok (.iconst (-1), 1) := by decide +kernel
theorem dX12_count_138 : decode cX12_count 138 = .ok (.ireturn, 1) := by decide +kernel
