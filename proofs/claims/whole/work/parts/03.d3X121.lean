theorem dX12_goesBehind_61 : decode cX12_goesBehind 61 = .ok (.aload_n 0, 1) := by decide +kernel
theorem dX12_goesBehind_62 : decode cX12_goesBehind 62 = .ok (.dup, 1) := by decide +kernel
theorem dX12_goesBehind_63 : decode cX12_goesBehind 63 = .ok (.getfield 278, 3) := by decide +kernel
theorem dX12_goesBehind_66 : decode cX12_goesBehind 66 = .ok (.iconst 1, 1) := by decide +kernel
theorem dX12_goesBehind_67 : decode cX12_goesBehind 67 = .ok (.isub, 1) := by decide +kernel
theorem dX12_goesBehind_68 : decode cX12_goesBehind 68 = .ok (.putfield 278, 3) := by decide +kernel
theorem dX12_goesBehind_71 : decode cX12_goesBehind 71 = .ok (.aload_n 0, 1) := by decide +kernel
theorem dX12_goesBehind_72 : decode cX12_goesBehind 72 = .ok (.dup, 1) := by decide +kernel
theorem dX12_goesBehind_73 : decode cX12_goesBehind 73 = .ok (.getfield 281, 3) := by decide +kernel
theorem dX12_goesBehind_76 : decode cX12_goesBehind 76 = .ok (.iconst 1, 1) := by decide +kernel
theorem dX12_goesBehind_77 : decode cX12_goesBehind 77 = .ok (.isub, 1) := by decide +kernel
theorem dX12_goesBehind_78 : decode cX12_goesBehind 78 = .ok (.putfield 281, 3) := by decide +kernel
theorem dX12_goesBehind_81 : decode cX12_goesBehind 81 = .ok (.aload_n 0, 1) := by decide +kernel
theorem dX12_goesBehind_82 : decode cX12_goesBehind 82 = .ok (.dup, 1) := by decide +kernel
theorem dX12_goesBehind_83 : decode cX12_goesBehind 83 = .ok (.getfield 262, 3) := by decide +kernel
theorem dX12_goesBehind_86 : decode cX12_goesBehind 86 = .ok (.iconst 1, 1) := by decide +kernel
theorem dX12_goesBehind_87 : decode cX12_goesBehind 87 = .ok (.iadd, 1) := by decide +kernel
theorem dX12_goesBehind_88 : decode cX12_goesBehind 88 = .ok (.putfield 262, 3) := by decide +kernel
theorem dX12_goesBehind_91 : decode cX12_goesBehind 91 = .ok (.aload_n 0, 1) := by decide +kernel
theorem dX12_goesBehind_92 : decode cX12_goesBehind 92 = .ok (.aload_n 0, 1) := by decide +kernel
theorem dX12_goesBehind_93 : decode cX12_goesBehind 93 = .ok (.getfield 278, 3) := by decide +kernel
theorem dX12_goesBehind_96 : decode cX12_goesBehind 96 = .ok (.ifCond .ne 7, 3) := by decide +kernel
theorem dX12_goesBehind_99 : decode cX12_goesBehind 99 = .ok (.iconst 1, 1) := by decide +kernel
theorem dX12_goesBehind_100 : decode cX12_goesBehind 100 = .ok (.goto 4, 3) := by decide +kernel
theorem dX12_goesBehind_103 : decode cX12_goesBehind 103 = .ok (.iconst 0, 1) := by decide +kernel
theorem dX12_goesBehind_104 : decode cX12_goesBehind 104 = .ok (.putfield 352, 3) := by decide +kernel
theorem dX12_goesBehind_107 : decode cX12_goesBehind 107 = .ok (.aload_n 0, 1) := by decide +kernel
theorem dX12_goesBehind_108 : decode cX12_goesBehind 108 = .ok (.getfield 352, 3) := by decide +kernel
theorem dX12_goesBehind_111 : decode cX12_goesBehind 111 = .ok (.ifCond .ne 7, 3) := by decide +kernel
theorem dX12_goesBehind_114 : decode cX12_goesBehind 114 = .ok (.aload_n 0, 1) := by decide +kernel
theorem dX12_goesBehind_115 : decode cX12_goesBehind 115 = .ok (.invokevirtual 346, 3) := by decide +kernel
theorem dX12_goesBehind_118 : decode cX12_goesBehind 118 = .ok (.iconst 0, 1) := by decide +kernel
theorem dX12_goesBehind_119 : decode cX12_goesBehind 119 = .ok (.ireturn, 1) := by decide +kernel
theorem dX12_condition_0 : decode cX12_condition 0 = .ok (.aload_n 0, 1) := by decide +kernel
theorem dX12_condition_1 : decode cX12_condition 1 = .ok (.iconst 0, 1) := by decide +kernel
theorem dX12_condition_2 : decode cX12_condition 2 = .ok (.putfield 352, 3) := by decide +kernel
theorem dX12_condition_5 : decode cX12_condition 5 = .ok (.aload_n 0, 1) := by decide +kernel
theorem dX12_condition_6 : decode cX12_condition 6 = .ok (.invokevirtual 288, 3) := by decide +kernel
theorem dX12_condition_9 : decode cX12_condition 9 = .ok (.bipush 40, 2) := by decide +kernel
theorem dX12_condition_11 : decode cX12_condition 11 = .ok (.if_icmp .eq 12, 3) := by decide +kernel
theorem dX12_condition_14 : decode cX12_condition 14 = .ok (.aload_n 0, 1) := by decide +kernel
theorem dX12_condition_15 : decode cX12_condition 15 = .ok (.iconst 1, 1) := by decide +kernel
theorem dX12_condition_16 : decode cX12_condition 16 = .ok (.aload_n 0, 1) := by decide +kernel
theorem dX12_condition_17 : decode cX12_condition 17 = .ok (.getfield 262, 3) := by decide +kernel
theorem dX12_condition_20 : decode cX12_condition 20 = .ok (.invokevirtual 284, 3) := by decide +kernel
theorem dX12_condition_23 : decode cX12_condition 23 = .ok (.aload_n 0, 1) := by decide +kernel
theorem dX12_condition_24 : decode cX12_condition 24 = .ok (.invokevirtual 271, 3) := by decide +kernel
theorem dX12_condition_27 : decode cX12_condition 27 = .ok (.ifCond .ne 4, 3) := by decide +kernel
theorem dX12_condition_30 : decode cX12_condition 30 = .ok (.return_, 1) := by decide +kernel
theorem dX12_condition_31 : decode cX12_condition 31 = .ok (.aload_n 0, 1) := by decide +kernel
theorem dX12_condition_32 : decode cX12_condition 32 = .ok (.invokevirtual 317, 3) := by decide +kernel
theorem dX12_condition_35 : decode cX12_condition 35 = .ok (.iconst 1, 1) := by decide +kernel
theorem dX12_condition_36 : decode cX12_condition 36 = .ok (.istore_n 1, 1) := by decide +kernel
theorem dX12_condition_37 : decode cX12_condition 37 = .ok (.aload_n 0, 1) := by decide +kernel
theorem dX12_condition_38 : decode cX12_condition 38 = .ok (.invokevirtual 271, 3) := by decide +kernel
theorem dX12_condition_41 : decode cX12_condition 41 = .ok (.ifCond .eq 33, 3) := by decide +kernel
theorem dX12_condition_44 : decode cX12_condition 44 = .ok (.aload_n 0, 1) := by decide +kernel
theorem dX12_condition_45 : decode cX12_condition 45 = .ok (.getfield 352, 3) := by decide +kernel
theorem dX12_condition_48 : decode cX12_condition 48 = .ok (.ifCond .ne 26, 3) := by decide +kernel
theorem dX12_condition_51 : decode cX12_condition 51 = .ok (.iload_n 1, 1) := by decide +kernel
theorem dX12_condition_52 : decode cX12_condition 52 = .ok (.ifCond .eq 7, 3) := by decide +kernel
theorem dX12_condition_55 : decode cX12_condition 55 = .ok (.aload_n 0, 1) := by decide +kernel
theorem dX12_condition_56 : decode cX12_condition 56 = .ok (.invokevirtual 355, 3) := by decide +kernel
theorem dX12_condition_59 : decode cX12_condition 59 = .ok (.aload_n 0, 1) := by decide +kernel
theorem dX12_condition_60 : decode cX12_condition 60 = .ok (.invokevirtual 271, 3) := by decide +kernel
theorem dX12_condition_63 : decode cX12_condition 63 = .ok (.ifCond .eq (-26), 3) := by decide +kernel
theorem dX12_condition_66 : decode cX12_condition 66 = .ok (.aload_n 0, 1) := by decide +kernel
theorem dX12_condition_67 : decode cX12_condition 67 = .ok (.invokevirtual 358, 3) := by decide +kernel
theorem dX12_condition_70 : decode cX12_condition 70 = .ok (.istore_n 1, 1) := by decide +kernel
theorem dX12_condition_71 : decode cX12_condition 71 = .ok (.goto (-34), 3) := by decide +kernel
theorem dX12_condition_74 : decode cX12_condition 74 = .ok (.return_, 1) := by decide +kernel
theorem dX12_hasSum_0 : decode cX12_hasSum 0 = .ok (.iload_n 0, 1) := by decide +kernel
theorem dX12_hasSum_1 : decode cX12_hasSum 1 = .ok (.bipush 100, 2) := by decide +kernel
theorem dX12_hasSum_3 : decode cX12_hasSum 3 = .ok (.if_icmp .eq 21, 3) := by decide +kernel
theorem dX12_hasSum_6 : decode cX12_hasSum 6 = .ok (.iload_n 0, 1) := by decide +kernel
theorem dX12_hasSum_7 : decode cX12_hasSum 7 = .ok (.bipush 102, 2) := by decide +kernel
theorem dX12_hasSum_9 : decode cX12_hasSum 9 = .ok (.if_icmp .eq 15, 3) := by decide +kernel
theorem dX12_hasSum_12 : decode cX12_hasSum 12 = .ok (.iload_n 0, 1) := by decide +kernel
theorem dX12_hasSum_13 : decode cX12_hasSum 13 = .ok (.bipush 112, 2) := by decide +kernel
theorem dX12_hasSum_15 : decode cX12_hasSum 15 = .ok (.if_icmp .eq 9, 3) := by decide +kernel
theorem dX12_hasSum_18 : decode cX12_hasSum 18 = .ok (.iload_n 0, 1) := by decide +kernel
theorem dX12_hasSum_19 : decode cX12_hasSum 19 = .ok (.bipush 110, 2) := by decide +kernel
theorem dX12_hasSum_21 : decode cX12_hasSum 21 = .ok (.if_icmp .ne 7, 3) := by decide +kernel
theorem dX12_hasSum_24 : decode cX12_hasSum 24 = .ok (.iconst 1, 1) := by decide +kernel
theorem dX12_hasSum_25 : decode cX12_hasSum 25 = .ok (.goto 4, 3) := by decide +kernel
theorem dX12_hasSum_28 : decode cX12_hasSum 28 = .ok (.iconst 0, 1) := by decide +kernel
theorem dX12_hasSum_29 : decode cX12_hasSum 29 = .ok (.ireturn, 1) := by decide +kernel
theorem dX12_clause_0 : decode cX12_clause 0 = .ok (.aload_n 0, 1) := by decide +kernel
theorem dX12_clause_1 : decode cX12_clause 1 = .ok (.invokevirtual 288, 3) := by decide +kernel
theorem dX12_clause_4 : decode cX12_clause 4 = .ok (.istore_n 1, 1) := by decide +kernel
theorem dX12_clause_5 : decode cX12_clause 5 = .ok (.iload_n 1, 1) := by decide +kernel
theorem dX12_clause_6 : decode cX12_clause 6 = .ok (.invokestatic 361, 3) := by decide +kernel
theorem dX12_clause_9 : decode cX12_clause 9 = .ok (.ifCond .ne 39, 3) := by decide +kernel
theorem dX12_clause_12 : decode cX12_clause 12 = .ok (.iload_n 1, 1) := by decide +kernel
theorem dX12_clause_13 : decode cX12_clause 13 = .ok (.bipush 97, 2) := by decide +kernel
theorem dX12_clause_15 : decode cX12_clause 15 = .ok (.if_icmp .eq 33, 3) := by decide +kernel
theorem dX12_clause_18 : decode cX12_clause 18 = .ok (.iload_n 1, 1) := by decide +kernel
theorem dX12_clause_19 : decode cX12_clause 19 = .ok (.bipush 119, 2) := by decide +kernel
theorem dX12_clause_21 : decode cX12_clause 21 = .ok (.if_icmp .eq 27, 3) := by decide +kernel
theorem dX12_clause_24 : decode cX12_clause 24 = .ok (.iload_n 1, 1) := by decide +kernel
theorem dX12_clause_25 : decode cX12_clause 25 = .ok (.bipush 111, 2) := by decide +kernel
theorem dX12_clause_27 : decode cX12_clause 27 = .ok (.if_icmp .eq 21, 3) := by decide +kernel
theorem dX12_clause_30 : decode cX12_clause 30 = .ok (.iload_n 1, 1) := by decide +kernel
theorem dX12_clause_31 : decode cX12_clause 31 = .ok (.bipush 117, 2) := by decide +kernel
theorem dX12_clause_33 : decode cX12_clause 33 = .ok (.if_icmp .eq 15, 3) := by decide +kernel
theorem dX12_clause_36 : decode cX12_clause 36 = .ok (.aload_n 0, 1) := by decide +kernel
theorem dX12_clause_37 : decode cX12_clause 37 = .ok (.iconst 1, 1) := by decide +kernel
theorem dX12_clause_38 : decode cX12_clause 38 = .ok (.aload_n 0, 1) := by decide +kernel
theorem dX12_clause_39 : decode cX12_clause 39 = .ok (.getfield 262, 3) := by decide +kernel
theorem dX12_clause_42 : decode cX12_clause 42 = .ok (.invokevirtual 284, 3) := by decide +kernel
theorem dX12_clause_45 : decode cX12_clause 45 = .ok (.goto 21, 3) := by decide +kernel
theorem dX12_clause_48 : decode cX12_clause 48 = .ok (.aload_n 0, 1) := by decide +kernel
theorem dX12_clause_49 : decode cX12_clause 49 = .ok (.getfield 364, 3) := by decide +kernel
theorem dX12_clause_52 : decode cX12_clause 52 = .ok (.bipush 16, 2) := by decide +kernel
theorem dX12_clause_54 : decode cX12_clause 54 = .ok (.if_icmp .ne 12, 3) := by decide +kernel
theorem dX12_clause_57 : decode cX12_clause 57 = .ok (.aload_n 0, 1) := by decide +kernel
theorem dX12_clause_58 : decode cX12_clause 58 = .ok (.iconst 4, 1) := by decide +kernel
theorem dX12_clause_59 : decode cX12_clause 59 = .ok (.aload_n 0, 1) := by decide +kernel
theorem dX12_clause_60 : decode cX12_clause 60 = .ok (.getfield 262, 3) := by decide +kernel
theorem dX12_clause_63 : decode cX12_clause 63 = .ok (.invokevirtual 284, 3) := by decide +kernel
theorem dX12_clause_66 : decode cX12_clause 66 = .ok (.aload_n 0, 1) := by decide +kernel
theorem dX12_clause_67 : decode cX12_clause 67 = .ok (.invokevirtual 271, 3) := by decide +kernel
theorem dX12_clause_70 : decode cX12_clause 70 = .ok (.ifCond .ne 4, 3) := by decide +kernel
theorem dX12_clause_73 : decode cX12_clause 73 = .ok (.return_, 1) := by decide +kernel
theorem dX12_clause_74 : decode cX12_clause 74 = .ok (.aload_n 0, 1) := by decide +kernel
theorem dX12_clause_75 : decode cX12_clause 75 = .ok (.getfield 99, 3) := by decide +kernel
theorem dX12_clause_78 : decode cX12_clause 78 = .ok (.aload_n 0, 1) := by decide +kernel
theorem dX12_clause_79 : decode cX12_clause 79 = .ok (.getfield 364, 3) := by decide +kernel
theorem dX12_clause_82 : decode cX12_clause 82 = .ok (.iload_n 1, 1) := by decide +kernel
theorem dX12_clause_83 : decode cX12_clause 83 = .ok (.iastore, 1) := by decide +kernel
theorem dX12_clause_84 : decode cX12_clause 84 = .ok (.aload_n 0, 1) := by decide +kernel
theorem dX12_clause_85 : decode cX12_clause 85 = .ok (.getfield 102, 3) := by decide +kernel
theorem dX12_clause_88 : decode cX12_clause 88 = .ok (.aload_n 0, 1) := by decide +kernel
theorem dX12_clause_89 : decode cX12_clause 89 = .ok (.getfield 364, 3) := by decide +kernel
theorem dX12_clause_92 : decode cX12_clause 92 = .ok (.aload_n 0, 1) := by decide +kernel
theorem dX12_clause_93 : decode cX12_clause 93 = .ok (.getfield 275, 3) := by decide +kernel
theorem dX12_clause_96 : decode cX12_clause 96 = .ok (.iastore, 1) := by decide +kernel
theorem dX12_clause_97 : decode cX12_clause 97 = .ok (.aload_n 0, 1) := by decide +kernel
theorem dX12_clause_98 : decode cX12_clause 98 = .ok (.dup, 1) := by decide +kernel
theorem dX12_clause_99 : decode cX12_clause 99 = .ok (.getfield 262, 3) := by decide +kernel
theorem dX12_clause_102 : decode cX12_clause 102 = .ok (.iconst 1, 1) := by decide +kernel
theorem dX12_clause_103 : decode cX12_clause 103 = .ok (.iadd, 1) := by decide +kernel
theorem dX12_clause_104 : decode cX12_clause 104 = .ok (.putfield 262, 3) := by decide +kernel
theorem dX12_clause_107 : decode cX12_clause 107 = .ok (.aload_n 0, 1) := by decide +kernel
theorem dX12_clause_108 : decode cX12_clause 108 = .ok (.iconst 0, 1) := by decide +kernel
theorem dX12_clause_109 : decode cX12_clause 109 = .ok (.putfield 278, 3) := by decide +kernel
theorem dX12_clause_112 : decode cX12_clause 112 = .ok (.aload_n 0, 1) := by decide +kernel
theorem dX12_clause_113 : decode cX12_clause 113 = .ok (.iconst 0, 1) := by decide +kernel
theorem dX12_clause_114 : decode cX12_clause 114 = .ok (.putfield 281, 3) := by decide +kernel
theorem dX12_clause_117 : decode cX12_clause 117 = .ok (.iload_n 1, 1) := by decide +kernel
theorem dX12_clause_118 : decode cX12_clause 118 = .ok (.invokestatic 361, 3) := by decide +kernel
theorem dX12_clause_121 : decode cX12_clause 121 = .ok (.ifCond .eq 7, 3) := by decide +kernel
theorem dX12_clause_124 : decode cX12_clause 124 = .ok (.aload_n 0, 1) := by decide +kernel
theorem dX12_clause_125 : decode cX12_clause 125 = .ok (.invokevirtual 340, 3) := by decide +kernel
theorem dX12_clause_128 : decode cX12_clause 128 = .ok (.aload_n 0, 1) := by decide +kernel
theorem dX12_clause_129 : decode cX12_clause 129 = .ok (.getfield 105, 3) := by decide +kernel
theorem dX12_clause_132 : decode cX12_clause 132 = .ok (.aload_n 0, 1) := by decide +kernel
theorem dX12_clause_133 : decode cX12_clause 133 = .ok (.getfield 364, 3) := by decide +kernel
theorem dX12_clause_136 : decode cX12_clause 136 = .ok (.aload_n 0, 1) := by decide +kernel
theorem dX12_clause_137 : decode cX12_clause 137 = .ok (.getfield 275, 3) := by decide +kernel
theorem dX12_clause_140 : decode cX12_clause 140 = .ok (.iastore, 1) := by decide +kernel
theorem dX12_clause_141 : decode cX12_clause 141 = .ok (.aload_n 0, 1) := by decide +kernel
theorem dX12_clause_142 : decode cX12_clause 142 = .ok (.invokevirtual 271, 3) := by decide +kernel
theorem dX12_clause_145 : decode cX12_clause 145 = .ok (.ifCond .eq 7, 3) := by decide +kernel
theorem dX12_clause_148 : decode cX12_clause 148 = .ok (.aload_n 0, 1) := by decide +kernel
theorem dX12_clause_149 : decode cX12_clause 149 = .ok (.invokevirtual 367, 3) := by decide +kernel
theorem dX12_clause_152 : decode cX12_clause 152 = .ok (.aload_n 0, 1) := by decide +kernel
theorem dX12_clause_153 : decode cX12_clause 153 = .ok (.getfield 108, 3) := by decide +kernel
theorem dX12_clause_156 : decode cX12_clause 156 = .ok (.aload_n 0, 1) := by decide +kernel
theorem dX12_clause_157 : decode cX12_clause 157 = .ok (.getfield 364, 3) := by decide +kernel
theorem dX12_clause_160 : decode cX12_clause 160 = .ok (.aload_n 0, 1) := by decide +kernel
theorem dX12_clause_161 : decode cX12_clause 161 = .ok (.getfield 275, 3) := by decide +kernel
theorem dX12_clause_164 : decode cX12_clause 164 = .ok (.iastore, 1) := by decide +kernel
theorem dX12_clause_165 : decode cX12_clause 165 = .ok (.aload_n 0, 1) := by decide +kernel
theorem dX12_clause_166 : decode cX12_clause 166 = .ok (.dup, 1) := by decide +kernel
theorem dX12_clause_167 : decode cX12_clause 167 = .ok (.getfield 364, 3) := by decide +kernel
theorem dX12_clause_170 : decode cX12_clause 170 = .ok (.iconst 1, 1) := by decide +kernel
theorem dX12_clause_171 : decode cX12_clause 171 = .ok (.iadd, 1) := by decide +kernel
theorem dX12_clause_172 : decode cX12_clause 172 = .ok (.putfield 364, 3) := by decide +kernel
theorem dX12_clause_175 : decode cX12_clause 175 = .ok (.return_, 1) := by decide +kernel
theorem dX12_rules_0 : decode cX12_rules 0 = .ok (.iload_n 1, 1) := by decide +kernel
theorem dX12_rules_1 : decode cX12_rules 1 = .ok (.i2l, 1) := by decide +kernel
theorem dX12_rules_2 : decode cX12_rules 2 = .ok (.lconst 1, 1) := by decide +kernel
theorem dX12_rules_3 : decode cX12_rules 3 = .ok (.ldc2_w 370, 3) := by decide +kernel
theorem dX12_rules_6 : decode cX12_rules 6 = .ok (.invokestatic 203, 3) := by decide +kernel
theorem dX12_rules_9 : decode cX12_rules 9 = .ok (.ifCond .eq 11, 3) := by decide +kernel
theorem dX12_rules_12 : decode cX12_rules 12 = .ok (.iload_n 1, 1) := by decide +kernel
theorem dX12_rules_13 : decode cX12_rules 13 = .ok (.aload_n 0, 1) := by decide +kernel
theorem dX12_rules_14 : decode cX12_rules 14 = .ok (.getfield 255, 3) := by decide +kernel
theorem dX12_rules_17 : decode cX12_rules 17 = .ok (.if_icmp .le 5, 3) := by decide +kernel
theorem dX12_rules_20 : decode cX12_rules 20 = .ok (.iconst (-1), 1) := by decide +kernel
theorem dX12_rules_21 : decode cX12_rules 21 = .ok (.ireturn, 1) := by decide +kernel
theorem dX12_rules_22 : decode cX12_rules 22 = .ok (.aload_n 0, 1) := by decide +kernel
theorem dX12_rules_23 : decode cX12_rules 23 = .ok (.iconst 0, 1) := by decide +kernel
theorem dX12_rules_24 : decode cX12_rules 24 = .ok (.putfield 255, 3) := by decide +kernel
theorem dX12_rules_27 : decode cX12_rules 27 = .ok (.aload_n 0, 1) := by decide +kernel
theorem dX12_rules_28 : decode cX12_rules 28 = .ok (.iconst 0, 1) := by decide +kernel
theorem dX12_rules_29 : decode cX12_rules 29 = .ok (.putfield 262, 3) := by decide +kernel
theorem dX12_rules_32 : decode cX12_rules 32 = .ok (.aload_n 0, 1) := by decide +kernel
theorem dX12_rules_33 : decode cX12_rules 33 = .ok (.iload_n 1, 1) := by decide +kernel
theorem dX12_rules_34 : decode cX12_rules 34 = .ok (.putfield 265, 3) := by decide +kernel
theorem dX12_rules_37 : decode cX12_rules 37 = .ok (.aload_n 0, 1) := by decide +kernel
theorem dX12_rules_38 : decode cX12_rules 38 = .ok (.iconst 0, 1) := by decide +kernel
theorem dX12_rules_39 : decode cX12_rules 39 = .ok (.putfield 268, 3) := by decide +kernel
theorem dX12_rules_42 : decode cX12_rules 42 = .ok (.aload_n 0, 1) := by decide +kernel
theorem dX12_rules_43 : decode cX12_rules 43 = .ok (.iconst 0, 1) := by decide +kernel
theorem dX12_rules_44 : decode cX12_rules 44 = .ok (.putfield 364, 3) := by decide +kernel
theorem dX12_rules_47 : decode cX12_rules 47 = .ok (.aload_n 0, 1) := by decide +kernel
theorem dX12_rules_48 : decode cX12_rules 48 = .ok (.iconst 0, 1) := by decide +kernel
theorem dX12_rules_49 : decode cX12_rules 49 = .ok (.putfield 275, 3) := by decide +kernel
theorem dX12_rules_52 : decode cX12_rules 52 = .ok (.iconst 1, 1) := by decide +kernel
theorem dX12_rules_53 : decode cX12_rules 53 = .ok (.istore_n 2, 1) := by decide +kernel
theorem dX12_rules_54 : decode cX12_rules 54 = .ok (.iload_n 2, 1) := by decide +kernel
theorem dX12_rules_55 : decode cX12_rules 55 = .ok (.ifCond .eq 73, 3) := by decide +kernel
theorem dX12_rules_58 : decode cX12_rules 58 = .ok (.aload_n 0, 1) := by decide +kernel
theorem dX12_rules_59 : decode cX12_rules 59 = .ok (.invokevirtual 271, 3) := by decide +kernel
theorem dX12_rules_62 : decode cX12_rules 62 = .ok (.ifCond .eq 66, 3) := by decide +kernel
theorem dX12_rules_65 : decode cX12_rules 65 = .ok (.aload_n 0, 1) := by decide +kernel
theorem dX12_rules_66 : decode cX12_rules 66 = .ok (.invokevirtual 372, 3) := by decide +kernel
theorem dX12_rules_69 : decode cX12_rules 69 = .ok (.aload_n 0, 1) := by decide +kernel
theorem dX12_rules_70 : decode cX12_rules 70 = .ok (.invokevirtual 271, 3) := by decide +kernel
theorem dX12_rules_73 : decode cX12_rules 73 = .ok (.ifCond .eq 18, 3) := by decide +kernel
theorem dX12_rules_76 : decode cX12_rules 76 = .ok (.aload_n 0, 1) := by decide +kernel
theorem dX12_rules_77 : decode cX12_rules 77 = .ok (.getfield 262, 3) := by decide +kernel
theorem dX12_rules_80 : decode cX12_rules 80 = .ok (.aload_n 0, 1) := by decide +kernel
theorem dX12_rules_81 : decode cX12_rules 81 = .ok (.getfield 265, 3) := by decide +kernel
theorem dX12_rules_84 : decode cX12_rules 84 = .ok (.if_icmp .ge 7, 3) := by decide +kernel
theorem dX12_rules_87 : decode cX12_rules 87 = .ok (.iconst 1, 1) := by decide +kernel
theorem dX12_rules_88 : decode cX12_rules 88 = .ok (.goto 4, 3) := by decide +kernel
theorem dX12_rules_91 : decode cX12_rules 91 = .ok (.iconst 0, 1) := by decide +kernel
theorem dX12_rules_92 : decode cX12_rules 92 = .ok (.istore_n 2, 1) := by decide +kernel
theorem dX12_rules_93 : decode cX12_rules 93 = .ok (.iload_n 2, 1) := by decide +kernel
theorem dX12_rules_94 : decode cX12_rules 94 = .ok (.ifCond .eq (-40), 3) := by decide +kernel
theorem dX12_rules_97 : decode cX12_rules 97 = .ok (.aload_n 0, 1) := by decide +kernel
theorem dX12_rules_98 : decode cX12_rules 98 = .ok (.invokevirtual 288, 3) := by decide +kernel
theorem dX12_rules_101 : decode cX12_rules 101 = .ok (.bipush 59, 2) := by decide +kernel
theorem dX12_rules_103 : decode cX12_rules 103 = .ok (.if_icmp .eq 12, 3) := by decide +kernel
theorem dX12_rules_106 : decode cX12_rules 106 = .ok (.aload_n 0, 1) := by decide +kernel
theorem dX12_rules_107 : decode cX12_rules 107 = .ok (.iconst 1, 1) := by decide +kernel
theorem dX12_rules_108 : decode cX12_rules 108 = .ok (.aload_n 0, 1) := by decide +kernel
theorem dX12_rules_109 : decode cX12_rules 109 = .ok (.getfield 262, 3) := by decide +kernel
theorem dX12_rules_112 : decode cX12_rules 112 = .ok (.invokevirtual 284, 3) := by decide +kernel
theorem dX12_rules_115 : decode cX12_rules 115 = .ok (.aload_n 0, 1) := by decide +kernel
theorem dX12_rules_116 : decode cX12_rules 116 = .ok (.dup, 1) := by decide +kernel
theorem dX12_rules_117 : decode cX12_rules 117 = .ok (.getfield 262, 3) := by decide +kernel
theorem dX12_rules_120 : decode cX12_rules 120 = .ok (.iconst 1, 1) := by decide +kernel
theorem dX12_rules_121 : decode cX12_rules 121 = .ok (.iadd, 1) := by decide +kernel
theorem dX12_rules_122 : decode cX12_rules 122 = .ok (.putfield 262, 3) := by decide +kernel
theorem dX12_rules_125 : decode cX12_rules 125 = .ok (.goto (-71), 3) := by decide +kernel
theorem dX12_rules_128 : decode cX12_rules 128 = .ok (.aload_n 0, 1) := by decide +kernel
theorem dX12_rules_129 : decode cX12_rules 129 = .ok (.getfield 268, 3) := by decide +kernel
theorem dX12_rules_132 : decode cX12_rules 132 = .ok (.ifCond .ge 8, 3) := by decide +kernel
theorem dX12_rules_135 : decode cX12_rules 135 = .ok (.aload_n 0, 1) := by decide +kernel
theorem dX12_rules_136 : decode cX12_rules 136 = .ok (.getfield 268, 3) := by decide +kernel
theorem dX12_rules_139 : decode cX12_rules 139 = .ok (.ireturn, 1) := by decide +kernel
theorem dX12_rules_140 : decode cX12_rules 140 = .ok (.iconst 0, 1) := by decide +kernel
theorem dX12_rules_141 : decode cX12_rules 141 = .ok (.istore_n 3, 1) := by decide +kernel
theorem dX12_rules_142 : decode cX12_rules 142 = .ok (.iload_n 3, 1) := by decide +kernel
theorem dX12_rules_143 : decode cX12_rules 143 = .ok (.aload_n 0, 1) := by decide +kernel
theorem dX12_rules_144 : decode cX12_rules 144 = .ok (.getfield 364, 3) := by decide +kernel
theorem dX12_rules_147 : decode cX12_rules 147 = .ok (.if_icmp .ge 57, 3) := by decide +kernel
theorem dX12_rules_150 : decode cX12_rules 150 = .ok (.aload_n 0, 1) := by decide +kernel
theorem dX12_rules_151 : decode cX12_rules 151 = .ok (.getfield 81, 3) := by decide +kernel
theorem dX12_rules_154 : decode cX12_rules 154 = .ok (.iload_n 3, 1) := by decide +kernel
theorem dX12_rules_155 : decode cX12_rules 155 = .ok (.aload_n 0, 1) := by decide +kernel
theorem dX12_rules_156 : decode cX12_rules 156 = .ok (.getfield 99, 3) := by decide +kernel
theorem dX12_rules_159 : decode cX12_rules 159 = .ok (.iload_n 3, 1) := by decide +kernel
theorem dX12_rules_160 : decode cX12_rules 160 = .ok (.iaload, 1) := by decide +kernel
theorem dX12_rules_161 : decode cX12_rules 161 = .ok (.iastore, 1) := by decide +kernel
theorem dX12_rules_162 : decode cX12_rules 162 = .ok (.aload_n 0, 1) := by decide +kernel
theorem dX12_rules_163 : decode cX12_rules 163 = .ok (.getfield 84, 3) := by decide +kernel
theorem dX12_rules_166 : decode cX12_rules 166 = .ok (.iload_n 3, 1) := by decide +kernel
theorem dX12_rules_167 : decode cX12_rules 167 = .ok (.aload_n 0, 1) := by decide +kernel
theorem dX12_rules_168 : decode cX12_rules 168 = .ok (.getfield 102, 3) := by decide +kernel
theorem dX12_rules_171 : decode cX12_rules 171 = .ok (.iload_n 3, 1) := by decide +kernel
theorem dX12_rules_172 : decode cX12_rules 172 = .ok (.iaload, 1) := by decide +kernel
theorem dX12_rules_173 : decode cX12_rules 173 = .ok (.iastore, 1) := by decide +kernel
theorem dX12_rules_174 : decode cX12_rules 174 = .ok (.aload_n 0, 1) := by decide +kernel
theorem dX12_rules_175 : decode cX12_rules 175 = .ok (.getfield 87, 3) := by decide +kernel
theorem dX12_rules_178 : decode cX12_rules 178 = .ok (.iload_n 3, 1) := by decide +kernel
theorem dX12_rules_179 : decode cX12_rules 179 = .ok (.aload_n 0, 1) := by decide +kernel
theorem dX12_rules_180 : decode cX12_rules 180 = .ok (.getfield 105, 3) := by decide +kernel
theorem dX12_rules_183 : decode cX12_rules 183 = .ok (.iload_n 3, 1) := by decide +kernel
theorem dX12_rules_184 : decode cX12_rules 184 = .ok (.iaload, 1) := by decide +kernel
theorem dX12_rules_185 : decode cX12_rules 185 = .ok (.iastore, 1) := by decide +kernel
theorem dX12_rules_186 : decode cX12_rules 186 = .ok (.aload_n 0, 1) := by decide +kernel
theorem dX12_rules_187 : decode cX12_rules 187 = .ok (.getfield 90, 3) := by decide +kernel
theorem dX12_rules_190 : decode cX12_rules 190 = .ok (.iload_n 3, 1) := by decide +kernel
theorem dX12_rules_191 : decode cX12_rules 191 = .ok (.aload_n 0, 1) := by decide +kernel
theorem dX12_rules_192 : decode cX12_rules 192 = .ok (.getfield 108, 3) := by decide +kernel
theorem dX12_rules_195 : decode cX12_rules 195 = .ok (.iload_n 3, 1) := by decide +kernel
theorem dX12_rules_196 : decode cX12_rules 196 = .ok (.iaload, 1) := by decide +kernel
theorem dX12_rules_197 : decode cX12_rules 197 = .ok (.iastore, 1) := by decide +kernel
theorem dX12_rules_198 : decode cX12_rules 198 = .ok (.iinc 3 1, 3) := by decide +kernel
theorem dX12_rules_201 : decode cX12_rules 201 = .ok (.goto (-59), 3) := by decide +kernel
theorem dX12_rules_204 : decode cX12_rules 204 = .ok (.iconst 0, 1) := by decide +kernel
theorem dX12_rules_205 : decode cX12_rules 205 = .ok (.istore_n 3, 1) := by decide +kernel
theorem dX12_rules_206 : decode cX12_rules 206 = .ok (.iload_n 3, 1) := by decide +kernel
theorem dX12_rules_207 : decode cX12_rules 207 = .ok (.aload_n 0, 1) := by decide +kernel
theorem dX12_rules_208 : decode cX12_rules 208 = .ok (.getfield 275, 3) := by decide +kernel
theorem dX12_rules_211 : decode cX12_rules 211 = .ok (.if_icmp .ge 33, 3) := by decide +kernel
theorem dX12_rules_214 : decode cX12_rules 214 = .ok (.aload_n 0, 1) := by decide +kernel
theorem dX12_rules_215 : decode cX12_rules 215 = .ok (.getfield 93, 3) := by decide +kernel
theorem dX12_rules_218 : decode cX12_rules 218 = .ok (.iload_n 3, 1) := by decide +kernel
theorem dX12_rules_219 : decode cX12_rules 219 = .ok (.aload_n 0, 1) := by decide +kernel
theorem dX12_rules_220 : decode cX12_rules 220 = .ok (.getfield 111, 3) := by decide +kernel
theorem dX12_rules_223 : decode cX12_rules 223 = .ok (.iload_n 3, 1) := by decide +kernel
theorem dX12_rules_224 : decode cX12_rules 224 = .ok (.iaload, 1) := by decide +kernel
theorem dX12_rules_225 : decode cX12_rules 225 = .ok (.iastore, 1) := by decide +kernel
theorem dX12_rules_226 : decode cX12_rules 226 = .ok (.aload_n 0, 1) := by decide +kernel
theorem dX12_rules_227 : decode cX12_rules 227 = .ok (.getfield 96, 3) := by decide +kernel
theorem dX12_rules_230 : decode cX12_rules 230 = .ok (.iload_n 3, 1) := by decide +kernel
theorem dX12_rules_231 : decode cX12_rules 231 = .ok (.aload_n 0, 1) := by decide +kernel
theorem dX12_rules_232 : decode cX12_rules 232 = .ok (.getfield 114, 3) := by decide +kernel
theorem dX12_rules_235 : decode cX12_rules 235 = .ok (.iload_n 3, 1) := by decide +kernel
theorem dX12_rules_236 : decode cX12_rules 236 = .ok (.iaload, 1) := by decide +kernel
theorem dX12_rules_237 : decode cX12_rules 237 = .ok (.iastore, 1) := by decide +kernel
theorem dX12_rules_238 : decode cX12_rules 238 = .ok (.iinc 3 1, 3) := by decide +kernel
theorem dX12_rules_241 : decode cX12_rules 241 = .ok (.goto (-35), 3) := by decide +kernel
theorem dX12_rules_244 : decode cX12_rules 244 = .ok (.aload_n 0, 1) := by decide +kernel
theorem dX12_rules_245 : decode cX12_rules 245 = .ok (.aload_n 0, 1) := by decide +kernel
theorem dX12_rules_246 : decode cX12_rules 246 = .ok (.getfield 364, 3) := by decide +kernel
theorem dX12_rules_249 : decode cX12_rules 249 = .ok (.putfield 375, 3) := by decide +kernel
theorem dX12_rules_252 : decode cX12_rules 252 = .ok (.aload_n 0, 1) := by decide +kernel
theorem dX12_rules_253 : decode cX12_rules 253 = .ok (.getfield 375, 3) := by decide +kernel
theorem dX12_rules_256 : decode cX12_rules 256 = .ok (.ireturn, 1) := by decide +kernel
theorem dX12_stands_0 : decode cX12_stands 0 = .ok (.aload_n 0, 1) := by decide +kernel
theorem dX12_stands_1 : decode cX12_stands 1 = .ok (.iload_n 1, 1) := by decide +kernel
theorem dX12_stands_2 : decode cX12_stands 2 = .ok (.putfield 378, 3) := by decide +kernel
theorem dX12_stands_5 : decode cX12_stands 5 = .ok (.aload_n 0, 1) := by decide +kernel
theorem dX12_stands_6 : decode cX12_stands 6 = .ok (.iload_n 2, 1) := by decide +kernel
theorem dX12_stands_7 : decode cX12_stands 7 = .ok (.putfield 381, 3) := by decide +kernel
theorem dX12_stands_10 : decode cX12_stands 10 = .ok (.aload_n 0, 1) := by decide +kernel
theorem dX12_stands_11 : decode cX12_stands 11 = .ok (.iload_n 3, 1) := by decide +kernel
theorem dX12_stands_12 : decode cX12_stands 12 = .ok (.putfield 384, 3) := by decide +kernel
theorem dX12_stands_15 : decode cX12_stands 15 = .ok (.aload_n 0, 1) := by decide +kernel
theorem dX12_stands_16 : decode cX12_stands 16 = .ok (.iload 4, 2) := by decide +kernel
theorem dX12_stands_18 : decode cX12_stands 18 = .ok (.putfield 387, 3) := by decide +kernel
theorem dX12_stands_21 : decode cX12_stands 21 = .ok (.return_, 1) := by decide +kernel
theorem dX12_waitingFor_0 : decode cX12_waitingFor 0 = .ok (.iconst 0, 1) := by decide +kernel
theorem dX12_waitingFor_1 : decode cX12_waitingFor 1 = .ok (.istore_n 2, 1) := by decide +kernel
theorem dX12_waitingFor_2 : decode cX12_waitingFor 2 = .ok (.iconst 0, 1) := by decide +kernel
theorem dX12_waitingFor_3 : decode cX12_waitingFor 3 = .ok (.istore_n 3, 1) := by decide +kernel
theorem dX12_waitingFor_4 : decode cX12_waitingFor 4 = .ok (.iload_n 3, 1) := by decide +kernel
theorem dX12_waitingFor_5 : decode cX12_waitingFor 5 = .ok (.aload_n 0, 1) := by decide +kernel
theorem dX12_waitingFor_6 : decode cX12_waitingFor 6 = .ok (.getfield 214, 3) := by decide +kernel
theorem dX12_waitingFor_9 : decode cX12_waitingFor 9 = .ok (.if_icmp .ge 32, 3) := by decide +kernel
theorem dX12_waitingFor_12 : decode cX12_waitingFor 12 = .ok (.iload_n 2, 1) := by decide +kernel
theorem dX12_waitingFor_13 : decode cX12_waitingFor 13 = .ok (.aload_n 0, 1) := by decide +kernel
theorem dX12_waitingFor_14 : decode cX12_waitingFor 14 = .ok (.getfield 183, 3) := by decide +kernel
theorem dX12_waitingFor_17 : decode cX12_waitingFor 17 = .ok (.bipush 8, 2) := by decide +kernel
theorem dX12_waitingFor_19 : decode cX12_waitingFor 19 = .ok (.iload_n 3, 1) := by decide +kernel
theorem dX12_waitingFor_20 : decode cX12_waitingFor 20 = .ok (.imul, 1) := by decide +kernel
theorem dX12_waitingFor_21 : decode cX12_waitingFor 21 = .ok (.iload_n 1, 1) := by decide +kernel
theorem dX12_waitingFor_22 : decode cX12_waitingFor 22 = .ok (.iadd, 1) := by decide +kernel
theorem dX12_waitingFor_23 : decode cX12_waitingFor 23 = .ok (.iaload, 1) := by decide +kernel
theorem dX12_waitingFor_24 : decode cX12_waitingFor 24 = .ok (.iconst (-1), 1) := by decide +kernel
theorem dX12_waitingFor_25 : decode cX12_waitingFor 25 = .ok (.if_icmp .eq 7, 3) := by decide +kernel
theorem dX12_waitingFor_28 : decode cX12_waitingFor 28 = .ok (.iconst 1, 1) := by decide +kernel
theorem dX12_waitingFor_29 : decode cX12_waitingFor 29 = .ok (.goto 4, 3) := by decide +kernel
theorem dX12_waitingFor_32 : decode cX12_waitingFor 32 = .ok (.iconst 0, 1) := by decide +kernel
theorem dX12_waitingFor_33 : decode cX12_waitingFor 33 = .ok (.iadd, 1) := by decide +kernel
theorem dX12_waitingFor_34 : decode cX12_waitingFor 34 = .ok (.istore_n 2, 1) := by decide +kernel
theorem dX12_waitingFor_35 : decode cX12_waitingFor 35 = .ok (.iinc 3 1, 3) := by decide +kernel
theorem dX12_waitingFor_38 : decode cX12_waitingFor 38 = .ok (.goto (-34), 3) := by decide +kernel
theorem dX12_waitingFor_41 : decode cX12_waitingFor 41 = .ok (.iload_n 2, 1) := by decide +kernel
theorem dX12_waitingFor_42 : decode cX12_waitingFor 42 = .ok (.ireturn, 1) := by decide +kernel
theorem dX12_hasToys_0 : decode cX12_hasToys 0 = .ok (.iconst 0, 1) := by decide +kernel
theorem dX12_hasToys_1 : decode cX12_hasToys 1 = .ok (.istore_n 2, 1) := by decide +kernel
theorem dX12_hasToys_2 : decode cX12_hasToys 2 = .ok (.iconst 0, 1) := by decide +kernel
theorem dX12_hasToys_3 : decode cX12_hasToys 3 = .ok (.istore_n 3, 1) := by decide +kernel
theorem dX12_hasToys_4 : decode cX12_hasToys 4 = .ok (.iload_n 3, 1) := by decide +kernel
theorem dX12_hasToys_5 : decode cX12_hasToys 5 = .ok (.aload_n 0, 1) := by decide +kernel
theorem dX12_hasToys_6 : decode cX12_hasToys 6 = .ok (.getfield 211, 3) := by decide +kernel
theorem dX12_hasToys_9 : decode cX12_hasToys 9 = .ok (.if_icmp .ge 37, 3) := by decide +kernel
theorem dX12_hasToys_12 : decode cX12_hasToys 12 = .ok (.iload_n 2, 1) := by decide +kernel
theorem dX12_hasToys_13 : decode cX12_hasToys 13 = .ok (.aload_n 0, 1) := by decide +kernel
theorem dX12_hasToys_14 : decode cX12_hasToys 14 = .ok (.getfield 44, 3) := by decide +kernel
theorem dX12_hasToys_17 : decode cX12_hasToys 17 = .ok (.iload_n 3, 1) := by decide +kernel
theorem dX12_hasToys_18 : decode cX12_hasToys 18 = .ok (.iaload, 1) := by decide +kernel
theorem dX12_hasToys_19 : decode cX12_hasToys 19 = .ok (.iconst 1, 1) := by decide +kernel
theorem dX12_hasToys_20 : decode cX12_hasToys 20 = .ok (.if_icmp .ne 17, 3) := by decide +kernel
theorem dX12_hasToys_23 : decode cX12_hasToys 23 = .ok (.aload_n 0, 1) := by decide +kernel
theorem dX12_hasToys_24 : decode cX12_hasToys 24 = .ok (.getfield 47, 3) := by decide +kernel
theorem dX12_hasToys_27 : decode cX12_hasToys 27 = .ok (.iload_n 3, 1) := by decide +kernel
theorem dX12_hasToys_28 : decode cX12_hasToys 28 = .ok (.iaload, 1) := by decide +kernel
theorem dX12_hasToys_29 : decode cX12_hasToys 29 = .ok (.iload_n 1, 1) := by decide +kernel
theorem dX12_hasToys_30 : decode cX12_hasToys 30 = .ok (.if_icmp .ne 7, 3) := by decide +kernel
theorem dX12_hasToys_33 : decode cX12_hasToys 33 = .ok (.iconst 1, 1) := by decide +kernel
theorem dX12_hasToys_34 : decode cX12_hasToys 34 = .ok (.goto 4, 3) := by decide +kernel
theorem dX12_hasToys_37 : decode cX12_hasToys 37 = .ok (.iconst 0, 1) := by decide +kernel
theorem dX12_hasToys_38 : decode cX12_hasToys 38 = .ok (.iadd, 1) := by decide +kernel
theorem dX12_hasToys_39 : decode cX12_hasToys 39 = .ok (.istore_n 2, 1) := by decide +kernel
theorem dX12_hasToys_40 : decode cX12_hasToys 40 = .ok (.iinc 3 1, 3) := by decide +kernel
theorem dX12_hasToys_43 : decode cX12_hasToys 43 = .ok (.goto (-39), 3) := by decide +kernel
theorem dX12_hasToys_46 : decode cX12_hasToys 46 = .ok (.iload_n 2, 1) := by decide +kernel
theorem dX12_hasToys_47 : decode cX12_hasToys 47 = .ok (.ireturn, 1) := by decide +kernel
theorem dX12_lackingOf_0 : decode cX12_lackingOf 0 = .ok (.iconst 0, 1) := by decide +kernel
theorem dX12_lackingOf_1 : decode cX12_lackingOf 1 = .ok (.istore_n 2, 1) := by decide +kernel
theorem dX12_lackingOf_2 : decode cX12_lackingOf 2 = .ok (.iconst 0, 1) := by decide +kernel
theorem dX12_lackingOf_3 : decode cX12_lackingOf 3 = .ok (.istore_n 3, 1) := by decide +kernel
theorem dX12_lackingOf_4 : decode cX12_lackingOf 4 = .ok (.iload_n 3, 1) := by decide +kernel
theorem dX12_lackingOf_5 : decode cX12_lackingOf 5 = .ok (.bipush 6, 2) := by decide +kernel
theorem dX12_lackingOf_7 : decode cX12_lackingOf 7 = .ok (.if_icmp .ge 40, 3) := by decide +kernel
theorem dX12_lackingOf_10 : decode cX12_lackingOf 10 = .ok (.iload_n 2, 1) := by decide +kernel
theorem dX12_lackingOf_11 : decode cX12_lackingOf 11 = .ok (.aload_n 0, 1) := by decide +kernel
theorem dX12_lackingOf_12 : decode cX12_lackingOf 12 = .ok (.getfield 29, 3) := by decide +kernel
theorem dX12_lackingOf_15 : decode cX12_lackingOf 15 = .ok (.bipush 6, 2) := by decide +kernel
theorem dX12_lackingOf_17 : decode cX12_lackingOf 17 = .ok (.aload_n 0, 1) := by decide +kernel
theorem dX12_lackingOf_18 : decode cX12_lackingOf 18 = .ok (.getfield 35, 3) := by decide +kernel
theorem dX12_lackingOf_21 : decode cX12_lackingOf 21 = .ok (.iload_n 1, 1) := by decide +kernel
theorem dX12_lackingOf_22 : decode cX12_lackingOf 22 = .ok (.iaload, 1) := by decide +kernel
theorem dX12_lackingOf_23 : decode cX12_lackingOf 23 = .ok (.imul, 1) := by decide +kernel
theorem dX12_lackingOf_24 : decode cX12_lackingOf 24 = .ok (.iload_n 3, 1) := by decide +kernel
theorem dX12_lackingOf_25 : decode cX12_lackingOf 25 = .ok (.iadd, 1) := by decide +kernel
theorem dX12_lackingOf_26 : decode cX12_lackingOf 26 = .ok (.iaload, 1) := by decide +kernel
theorem dX12_lackingOf_27 : decode cX12_lackingOf 27 = .ok (.aload_n 0, 1) := by decide +kernel
theorem dX12_lackingOf_28 : decode cX12_lackingOf 28 = .ok (.getfield 66, 3) := by decide +kernel
theorem dX12_lackingOf_31 : decode cX12_lackingOf 31 = .ok (.bipush 6, 2) := by decide +kernel
theorem dX12_lackingOf_33 : decode cX12_lackingOf 33 = .ok (.iload_n 1, 1) := by decide +kernel
theorem dX12_lackingOf_34 : decode cX12_lackingOf 34 = .ok (.imul, 1) := by decide +kernel
theorem dX12_lackingOf_35 : decode cX12_lackingOf 35 = .ok (.iload_n 3, 1) := by decide +kernel
theorem dX12_lackingOf_36 : decode cX12_lackingOf 36 = .ok (.iadd, 1) := by decide +kernel
theorem dX12_lackingOf_37 : decode cX12_lackingOf 37 = .ok (.iaload, 1) := by decide +kernel
theorem dX12_lackingOf_38 : decode cX12_lackingOf 38 = .ok (.isub, 1) := by decide +kernel
theorem dX12_lackingOf_39 : decode cX12_lackingOf 39 = .ok (.iadd, 1) := by decide +kernel
theorem dX12_lackingOf_40 : decode cX12_lackingOf 40 = .ok (.istore_n 2, 1) := by decide +kernel
theorem dX12_lackingOf_41 : decode cX12_lackingOf 41 = .ok (.iinc 3 1, 3) := by decide +kernel
theorem dX12_lackingOf_44 : decode cX12_lackingOf 44 = .ok (.goto (-40), 3) := by decide +kernel
theorem dX12_lackingOf_47 : decode cX12_lackingOf 47 = .ok (.iload_n 2, 1) := by decide +kernel
theorem dX12_lackingOf_48 : decode cX12_lackingOf 48 = .ok (.ireturn, 1) := by decide +kernel
theorem dX12_valueOfToy_0 : decode cX12_valueOfToy 0 = .ok (.aload_n 0, 1) := by decide +kernel
theorem dX12_valueOfToy_1 : decode cX12_valueOfToy 1 = .ok (.getfield 381, 3) := by decide +kernel
theorem dX12_valueOfToy_4 : decode cX12_valueOfToy 4 = .ok (.istore_n 2, 1) := by decide +kernel
theorem dX12_valueOfToy_5 : decode cX12_valueOfToy 5 = .ok (.iload_n 1, 1) := by decide +kernel
theorem dX12_valueOfToy_6 : decode cX12_valueOfToy 6 = .ok (.lookupswitch 143 #[(97, 71), (107, 66), (109, 117), (112, 81), (116, 132), (119, 101), (122, 91)], 66) := by decide +kernel
theorem dX12_valueOfToy_72 : decode cX12_valueOfToy 72 = .ok (.aload_n 0, 1) := by decide +kernel
theorem dX12_valueOfToy_73 : decode cX12_valueOfToy 73 = .ok (.getfield 378, 3) := by decide +kernel
theorem dX12_valueOfToy_76 : decode cX12_valueOfToy 76 = .ok (.ireturn, 1) := by decide +kernel
theorem dX12_valueOfToy_77 : decode cX12_valueOfToy 77 = .ok (.aload_n 0, 1) := by decide +kernel
theorem dX12_valueOfToy_78 : decode cX12_valueOfToy 78 = .ok (.getfield 13, 3) := by decide +kernel
theorem dX12_valueOfToy_81 : decode cX12_valueOfToy 81 = .ok (.aload_n 0, 1) := by decide +kernel
theorem dX12_valueOfToy_82 : decode cX12_valueOfToy 82 = .ok (.getfield 378, 3) := by decide +kernel
theorem dX12_valueOfToy_85 : decode cX12_valueOfToy 85 = .ok (.iaload, 1) := by decide +kernel
theorem dX12_valueOfToy_86 : decode cX12_valueOfToy 86 = .ok (.ireturn, 1) := by decide +kernel
theorem dX12_valueOfToy_87 : decode cX12_valueOfToy 87 = .ok (.aload_n 0, 1) := by decide +kernel
theorem dX12_valueOfToy_88 : decode cX12_valueOfToy 88 = .ok (.getfield 17, 3) := by decide +kernel
theorem dX12_valueOfToy_91 : decode cX12_valueOfToy 91 = .ok (.aload_n 0, 1) := by decide +kernel
theorem dX12_valueOfToy_92 : decode cX12_valueOfToy 92 = .ok (.getfield 378, 3) := by decide +kernel
theorem dX12_valueOfToy_95 : decode cX12_valueOfToy 95 = .ok (.iaload, 1) := by decide +kernel
theorem dX12_valueOfToy_96 : decode cX12_valueOfToy 96 = .ok (.ireturn, 1) := by decide +kernel
theorem dX12_valueOfToy_97 : decode cX12_valueOfToy 97 = .ok (.aload_n 0, 1) := by decide +kernel
theorem dX12_valueOfToy_98 : decode cX12_valueOfToy 98 = .ok (.getfield 20, 3) := by decide +kernel
theorem dX12_valueOfToy_101 : decode cX12_valueOfToy 101 = .ok (.aload_n 0, 1) := by decide +kernel
theorem dX12_valueOfToy_102 : decode cX12_valueOfToy 102 = .ok (.getfield 378, 3) := by decide +kernel
theorem dX12_valueOfToy_105 : decode cX12_valueOfToy 105 = .ok (.iaload, 1) := by decide +kernel
theorem dX12_valueOfToy_106 : decode cX12_valueOfToy 106 = .ok (.ireturn, 1) := by decide +kernel
theorem dX12_valueOfToy_107 : decode cX12_valueOfToy 107 = .ok (.iload_n 2, 1) := by decide +kernel
theorem dX12_valueOfToy_108 : decode cX12_valueOfToy 108 = .ok (.iconst (-1), 1) := by decide +kernel
theorem dX12_valueOfToy_109 : decode cX12_valueOfToy 109 = .ok (.if_icmp .ne 7, 3) := by decide +kernel
theorem dX12_valueOfToy_112 : decode cX12_valueOfToy 112 = .ok (.iconst 0, 1) := by decide +kernel
theorem dX12_valueOfToy_113 : decode cX12_valueOfToy 113 = .ok (.goto 9, 3) := by decide +kernel
theorem dX12_valueOfToy_116 : decode cX12_valueOfToy 116 = .ok (.aload_n 0, 1) := by decide +kernel
theorem dX12_valueOfToy_117 : decode cX12_valueOfToy 117 = .ok (.getfield 41, 3) := by decide +kernel
theorem dX12_valueOfToy_120 : decode cX12_valueOfToy 120 = .ok (.iload_n 2, 1) := by decide +kernel
theorem dX12_valueOfToy_121 : decode cX12_valueOfToy 121 = .ok (.iaload, 1) := by decide +kernel
theorem dX12_valueOfToy_122 : decode cX12_valueOfToy 122 = .ok (.ireturn, 1) := by decide +kernel
theorem dX12_valueOfToy_123 : decode cX12_valueOfToy 123 = .ok (.iload_n 2, 1) := by decide +kernel
theorem dX12_valueOfToy_124 : decode cX12_valueOfToy 124 = .ok (.iconst (-1), 1) := by decide +kernel
theorem dX12_valueOfToy_125 : decode cX12_valueOfToy 125 = .ok (.if_icmp .ne 7, 3) := by decide +kernel
theorem dX12_valueOfToy_128 : decode cX12_valueOfToy 128 = .ok (.iconst 0, 1) := by decide +kernel
theorem dX12_valueOfToy_129 : decode cX12_valueOfToy 129 = .ok (.goto 8, 3) := by decide +kernel
theorem dX12_valueOfToy_132 : decode cX12_valueOfToy 132 = .ok (.aload_n 0, 1) := by decide +kernel
theorem dX12_valueOfToy_133 : decode cX12_valueOfToy 133 = .ok (.iload_n 2, 1) := by decide +kernel
theorem dX12_valueOfToy_134 : decode cX12_valueOfToy 134 = .ok (.invokevirtual 390, 3) := by decide +kernel
theorem dX12_valueOfToy_137 : decode cX12_valueOfToy 137 = .ok (.ireturn, 1) := by decide +kernel
theorem dX12_valueOfToy_138 : decode cX12_valueOfToy 138 = .ok (.iload_n 2, 1) := by decide +kernel
theorem dX12_valueOfToy_139 : decode cX12_valueOfToy 139 = .ok (.iconst (-1), 1) := by decide +kernel
theorem dX12_valueOfToy_140 : decode cX12_valueOfToy 140 = .ok (.if_icmp .ne 7, 3) := by decide +kernel
theorem dX12_valueOfToy_143 : decode cX12_valueOfToy 143 = .ok (.iconst 0, 1) := by decide +kernel
theorem dX12_valueOfToy_144 : decode cX12_valueOfToy 144 = .ok (.goto 4, 3) := by decide +kernel
theorem dX12_valueOfToy_147 : decode cX12_valueOfToy 147 = .ok (.iload_n 2, 1) := by decide +kernel
theorem dX12_valueOfToy_148 : decode cX12_valueOfToy 148 = .ok (.ireturn, 1) := by decide +kernel
theorem dX12_valueOfToy_149 : decode cX12_valueOfToy 149 = .ok (.iload_n 2, 1) := by decide +kernel
theorem dX12_valueOfToy_150 : decode cX12_valueOfToy 150 = .ok (.iconst (-1), 1) := by decide +kernel
theorem dX12_valueOfToy_151 : decode cX12_valueOfToy 151 = .ok (.if_icmp .ne 7, 3) := by decide +kernel
theorem dX12_valueOfToy_154 : decode cX12_valueOfToy 154 = .ok (.iconst 0, 1) := by decide +kernel
theorem dX12_valueOfToy_155 : decode cX12_valueOfToy 155 = .ok (.goto 9, 3) := by decide +kernel
theorem dX12_valueOfToy_158 : decode cX12_valueOfToy 158 = .ok (.aload_n 0, 1) := by decide +kernel
theorem dX12_valueOfToy_159 : decode cX12_valueOfToy 159 = .ok (.getfield 56, 3) := by decide +kernel
theorem dX12_valueOfToy_162 : decode cX12_valueOfToy 162 = .ok (.iload_n 2, 1) := by decide +kernel
theorem dX12_valueOfToy_163 : decode cX12_valueOfToy 163 = .ok (.iaload, 1) := by decide +kernel
theorem dX12_valueOfToy_164 : decode cX12_valueOfToy 164 = .ok (.ireturn, 1) := by decide +kernel
theorem dX12_valueOf_0 : decode cX12_valueOf 0 = .ok (.iload_n 1, 1) := by decide +kernel
theorem dX12_valueOf_1 : decode cX12_valueOf 1 = .ok (.invokestatic 302, 3) := by decide +kernel
theorem dX12_valueOf_4 : decode cX12_valueOf 4 = .ok (.ifCond .eq 9, 3) := by decide +kernel
theorem dX12_valueOf_7 : decode cX12_valueOf 7 = .ok (.aload_n 0, 1) := by decide +kernel
theorem dX12_valueOf_8 : decode cX12_valueOf 8 = .ok (.iload_n 1, 1) := by decide +kernel
theorem dX12_valueOf_9 : decode cX12_valueOf 9 = .ok (.invokevirtual 394, 3) := by decide +kernel
theorem dX12_valueOf_12 : decode cX12_valueOf 12 = .ok (.ireturn, 1) := by decide +kernel
theorem dX12_valueOf_13 : decode cX12_valueOf 13 = .ok (.aload_n 0, 1) := by decide +kernel
theorem dX12_valueOf_14 : decode cX12_valueOf 14 = .ok (.getfield 384, 3) := by decide +kernel
theorem dX12_valueOf_17 : decode cX12_valueOf 17 = .ok (.istore_n 2, 1) := by decide +kernel
theorem dX12_valueOf_18 : decode cX12_valueOf 18 = .ok (.iload_n 1, 1) := by decide +kernel
theorem dX12_valueOf_19 : decode cX12_valueOf 19 = .ok (.tableswitch 189 100 121 #[128, 108, 189, 189, 122, 189, 189, 189, 142, 189, 189, 189, 189, 147, 189, 133, 189, 189, 115, 189, 189, 101], 101) := by decide +kernel
theorem dX12_valueOf_120 : decode cX12_valueOf 120 = .ok (.aload_n 0, 1) := by decide +kernel
theorem dX12_valueOf_121 : decode cX12_valueOf 121 = .ok (.getfield 69, 3) := by decide +kernel
theorem dX12_valueOf_124 : decode cX12_valueOf 124 = .ok (.iload_n 2, 1) := by decide +kernel
theorem dX12_valueOf_125 : decode cX12_valueOf 125 = .ok (.iaload, 1) := by decide +kernel
theorem dX12_valueOf_126 : decode cX12_valueOf 126 = .ok (.ireturn, 1) := by decide +kernel
theorem dX12_valueOf_127 : decode cX12_valueOf 127 = .ok (.aload_n 0, 1) := by decide +kernel
theorem dX12_valueOf_128 : decode cX12_valueOf 128 = .ok (.getfield 72, 3) := by decide +kernel
theorem dX12_valueOf_131 : decode cX12_valueOf 131 = .ok (.iload_n 2, 1) := by decide +kernel
theorem dX12_valueOf_132 : decode cX12_valueOf 132 = .ok (.iaload, 1) := by decide +kernel
theorem dX12_valueOf_133 : decode cX12_valueOf 133 = .ok (.ireturn, 1) := by decide +kernel
theorem dX12_valueOf_134 : decode cX12_valueOf 134 = .ok (.aload_n 0, 1) := by decide +kernel
theorem dX12_valueOf_135 : decode cX12_valueOf 135 = .ok (.getfield 75, 3) := by decide +kernel
theorem dX12_valueOf_138 : decode cX12_valueOf 138 = .ok (.iload_n 2, 1) := by decide +kernel
theorem dX12_valueOf_139 : decode cX12_valueOf 139 = .ok (.iaload, 1) := by decide +kernel
theorem dX12_valueOf_140 : decode cX12_valueOf 140 = .ok (.ireturn, 1) := by decide +kernel
theorem dX12_valueOf_141 : decode cX12_valueOf 141 = .ok (.aload_n 0, 1) := by decide +kernel
theorem dX12_valueOf_142 : decode cX12_valueOf 142 = .ok (.iload_n 2, 1) := by decide +kernel
theorem dX12_valueOf_143 : decode cX12_valueOf 143 = .ok (.invokevirtual 397, 3) := by decide +kernel
theorem dX12_valueOf_146 : decode cX12_valueOf 146 = .ok (.ireturn, 1) := by decide +kernel
theorem dX12_valueOf_147 : decode cX12_valueOf 147 = .ok (.aload_n 0, 1) := by decide +kernel
theorem dX12_valueOf_148 : decode cX12_valueOf 148 = .ok (.getfield 219, 3) := by decide +kernel
theorem dX12_valueOf_151 : decode cX12_valueOf 151 = .ok (.ireturn, 1) := by decide +kernel
theorem dX12_valueOf_152 : decode cX12_valueOf 152 = .ok (.aload_n 0, 1) := by decide +kernel
theorem dX12_valueOf_153 : decode cX12_valueOf 153 = .ok (.getfield 219, 3) := by decide +kernel
theorem dX12_valueOf_156 : decode cX12_valueOf 156 = .ok (.sipush 365, 3) := by decide +kernel
theorem dX12_valueOf_159 : decode cX12_valueOf 159 = .ok (.irem, 1) := by decide +kernel
theorem dX12_valueOf_160 : decode cX12_valueOf 160 = .ok (.ireturn, 1) := by decide +kernel
theorem dX12_valueOf_161 : decode cX12_valueOf 161 = .ok (.aload_n 0, 1) := by decide +kernel
theorem dX12_valueOf_162 : decode cX12_valueOf 162 = .ok (.getfield 387, 3) := by decide +kernel
theorem dX12_valueOf_165 : decode cX12_valueOf 165 = .ok (.ireturn, 1) := by decide +kernel
theorem dX12_valueOf_166 : decode cX12_valueOf 166 = .ok (.aload_n 0, 1) := by decide +kernel
theorem dX12_valueOf_167 : decode cX12_valueOf 167 = .ok (.getfield 183, 3) := by decide +kernel
theorem dX12_valueOf_170 : decode cX12_valueOf 170 = .ok (.bipush 8, 2) := by decide +kernel
theorem dX12_valueOf_172 : decode cX12_valueOf 172 = .ok (.iload_n 2, 1) := by decide +kernel
theorem dX12_valueOf_173 : decode cX12_valueOf 173 = .ok (.imul, 1) := by decide +kernel
theorem dX12_valueOf_174 : decode cX12_valueOf 174 = .ok (.aload_n 0, 1) := by decide +kernel
theorem dX12_valueOf_175 : decode cX12_valueOf 175 = .ok (.getfield 378, 3) := by decide +kernel
theorem dX12_valueOf_178 : decode cX12_valueOf 178 = .ok (.iadd, 1) := by decide +kernel
theorem dX12_valueOf_179 : decode cX12_valueOf 179 = .ok (.iaload, 1) := by decide +kernel
theorem dX12_valueOf_180 : decode cX12_valueOf 180 = .ok (.iconst (-1), 1) := by decide +kernel
theorem dX12_valueOf_181 : decode cX12_valueOf 181 = .ok (.if_icmp .ne 7, 3) := by decide +kernel
theorem dX12_valueOf_184 : decode cX12_valueOf 184 = .ok (.iconst 0, 1) := by decide +kernel
theorem dX12_valueOf_185 : decode cX12_valueOf 185 = .ok (.goto 22, 3) := by decide +kernel
theorem dX12_valueOf_188 : decode cX12_valueOf 188 = .ok (.aload_n 0, 1) := by decide +kernel
theorem dX12_valueOf_189 : decode cX12_valueOf 189 = .ok (.getfield 219, 3) := by decide +kernel
theorem dX12_valueOf_192 : decode cX12_valueOf 192 = .ok (.aload_n 0, 1) := by decide +kernel
theorem dX12_valueOf_193 : decode cX12_valueOf 193 = .ok (.getfield 183, 3) := by decide +kernel
theorem dX12_valueOf_196 : decode cX12_valueOf 196 = .ok (.bipush 8, 2) := by decide +kernel
theorem dX12_valueOf_198 : decode cX12_valueOf 198 = .ok (.iload_n 2, 1) := by decide +kernel
theorem dX12_valueOf_199 : decode cX12_valueOf 199 = .ok (.imul, 1) := by decide +kernel
theorem dX12_valueOf_200 : decode cX12_valueOf 200 = .ok (.aload_n 0, 1) := by decide +kernel
theorem dX12_valueOf_201 : decode cX12_valueOf 201 = .ok (.getfield 378, 3) := by decide +kernel
theorem dX12_valueOf_204 : decode cX12_valueOf 204 = .ok (.iadd, 1) := by decide +kernel
theorem dX12_valueOf_205 : decode cX12_valueOf 205 = .ok (.iaload, 1) := by decide +kernel
theorem dX12_valueOf_206 : decode cX12_valueOf 206 = .ok (.isub, 1) := by decide +kernel
theorem dX12_valueOf_207 : decode cX12_valueOf 207 = .ok (.ireturn, 1) := by decide +kernel
theorem dX12_valueOf_208 : decode cX12_valueOf 208 = .ok (.aload_n 0, 1) := by decide +kernel
theorem dX12_valueOf_209 : decode cX12_valueOf 209 = .ok (.aload_n 0, 1) := by decide +kernel
theorem dX12_valueOf_210 : decode cX12_valueOf 210 = .ok (.getfield 378, 3) := by decide +kernel
theorem dX12_valueOf_213 : decode cX12_valueOf 213 = .ok (.invokevirtual 400, 3) := by decide +kernel
theorem dX12_valueOf_216 : decode cX12_valueOf 216 = .ok (.ireturn, 1) := by decide +kernel
theorem dX12_worked_0 : decode cX12_worked 0 = .ok (.iload_n 0, 1) := by decide +kernel
theorem dX12_worked_1 : decode cX12_worked 1 = .ok (.lookupswitch 125 #[(37, 91), (42, 75), (43, 67), (45, 71), (47, 79), (60, 103), (62, 114)], 67) := by decide +kernel
theorem dX12_worked_68 : decode cX12_worked 68 = .ok (.iload_n 1, 1) := by decide +kernel
theorem dX12_worked_69 : decode cX12_worked 69 = .ok (.iload_n 2, 1) := by decide +kernel
theorem dX12_worked_70 : decode cX12_worked 70 = .ok (.iadd, 1) := by decide +kernel
theorem dX12_worked_71 : decode cX12_worked 71 = .ok (.ireturn, 1) := by decide +kernel
theorem dX12_worked_72 : decode cX12_worked 72 = .ok (.iload_n 1, 1) := by decide +kernel
theorem dX12_worked_73 : decode cX12_worked 73 = .ok (.iload_n 2, 1) := by decide +kernel
theorem dX12_worked_74 : decode cX12_worked 74 = .ok (.isub, 1) := by decide +kernel
theorem dX12_worked_75 : decode cX12_worked 75 = .ok (.ireturn, 1) := by decide +kernel
theorem dX12_worked_76 : decode cX12_worked 76 = .ok (.iload_n 1, 1) := by decide +kernel
theorem dX12_worked_77 : decode cX12_worked 77 = .ok (.iload_n 2, 1) := by decide +kernel
theorem dX12_worked_78 : decode cX12_worked 78 = .ok (.imul, 1) := by decide +kernel
theorem dX12_worked_79 : decode cX12_worked 79 = .ok (.ireturn, 1) := by decide +kernel
theorem dX12_worked_80 : decode cX12_worked 80 = .ok (.iload_n 2, 1) := by decide +kernel
theorem dX12_worked_81 : decode cX12_worked 81 = .ok (.ifCond .ne 7, 3) := by decide +kernel
theorem dX12_worked_84 : decode cX12_worked 84 = .ok (.iconst 0, 1) := by decide +kernel
theorem dX12_worked_85 : decode cX12_worked 85 = .ok (.goto 6, 3) := by decide +kernel
theorem dX12_worked_88 : decode cX12_worked 88 = .ok (.iload_n 1, 1) := by decide +kernel
theorem dX12_worked_89 : decode cX12_worked 89 = .ok (.iload_n 2, 1) := by decide +kernel
theorem dX12_worked_90 : decode cX12_worked 90 = .ok (.idiv, 1) := by decide +kernel
theorem dX12_worked_91 : decode cX12_worked 91 = .ok (.ireturn, 1) := by decide +kernel
theorem dX12_worked_92 : decode cX12_worked 92 = .ok (.iload_n 2, 1) := by decide +kernel
theorem dX12_worked_93 : decode cX12_worked 93 = .ok (.ifCond .ne 7, 3) := by decide +kernel
theorem dX12_worked_96 : decode cX12_worked 96 = .ok (.iconst 0, 1) := by decide +kernel
theorem dX12_worked_97 : decode cX12_worked 97 = .ok (.goto 6, 3) := by decide +kernel
theorem dX12_worked_100 : decode cX12_worked 100 = .ok (.iload_n 1, 1) := by decide +kernel
theorem dX12_worked_101 : decode cX12_worked 101 = .ok (.iload_n 2, 1) := by decide +kernel
theorem dX12_worked_102 : decode cX12_worked 102 = .ok (.irem, 1) := by decide +kernel
theorem dX12_worked_103 : decode cX12_worked 103 = .ok (.ireturn, 1) := by decide +kernel
theorem dX12_worked_104 : decode cX12_worked 104 = .ok (.iload_n 1, 1) := by decide +kernel
theorem dX12_worked_105 : decode cX12_worked 105 = .ok (.iload_n 2, 1) := by decide +kernel
theorem dX12_worked_106 : decode cX12_worked 106 = .ok (.if_icmp .ge 7, 3) := by decide +kernel
theorem dX12_worked_109 : decode cX12_worked 109 = .ok (.iconst 1, 1) := by decide +kernel
theorem dX12_worked_110 : decode cX12_worked 110 = .ok (.goto 4, 3) := by decide +kernel
theorem dX12_worked_113 : decode cX12_worked 113 = .ok (.iconst 0, 1) := by decide +kernel
theorem dX12_worked_114 : decode cX12_worked 114 = .ok (.ireturn, 1) := by decide +kernel
theorem dX12_worked_115 : decode cX12_worked 115 = .ok (.iload_n 1, 1) := by decide +kernel
theorem dX12_worked_116 : decode cX12_worked 116 = .ok (.iload_n 2, 1) := by decide +kernel
theorem dX12_worked_117 : decode cX12_worked 117 = .ok (.if_icmp .le 7, 3) := by decide +kernel
theorem dX12_worked_120 : decode cX12_worked 120 = .ok (.iconst 1, 1) := by decide +kernel
theorem dX12_worked_121 : decode cX12_worked 121 = .ok (.goto 4, 3) := by decide +kernel
theorem dX12_worked_124 : decode cX12_worked 124 = .ok (.iconst 0, 1) := by decide +kernel
theorem dX12_worked_125 : decode cX12_worked 125 = .ok (.ireturn, 1) := by decide +kernel
theorem dX12_worked_126 : decode cX12_worked 126 = .ok (.iload_n 1, 1) := by decide +kernel
theorem dX12_worked_127 : decode cX12_worked 127 = .ok (.iload_n 2, 1) := by decide +kernel
theorem dX12_worked_128 : decode cX12_worked 128 = .ok (.if_icmp .ne 7, 3) := by decide +kernel
theorem dX12_worked_131 : decode cX12_worked 131 = .ok (.iconst 1, 1) := by decide +kernel
theorem dX12_worked_132 : decode cX12_worked 132 = .ok (.goto 4, 3) := by decide +kernel
theorem dX12_worked_135 : decode cX12_worked 135 = .ok (.iconst 0, 1) := by decide +kernel
theorem dX12_worked_136 : decode cX12_worked 136 = .ok (.ireturn, 1) := by decide +kernel
theorem dX12_does_0 : decode cX12_does 0 = .ok (.iload_n 2, 1) := by decide +kernel
theorem dX12_does_1 : decode cX12_does 1 = .ok (.iconst 1, 1) := by decide +kernel
theorem dX12_does_2 : decode cX12_does 2 = .ok (.iadd, 1) := by decide +kernel
theorem dX12_does_3 : decode cX12_does 3 = .ok (.istore_n 3, 1) := by decide +kernel
theorem dX12_does_4 : decode cX12_does 4 = .ok (.iload_n 1, 1) := by decide +kernel
theorem dX12_does_5 : decode cX12_does 5 = .ok (.bipush 38, 2) := by decide +kernel
theorem dX12_does_7 : decode cX12_does 7 = .ok (.if_icmp .eq 9, 3) := by decide +kernel
theorem dX12_does_10 : decode cX12_does 10 = .ok (.iload_n 1, 1) := by decide +kernel
theorem dX12_does_11 : decode cX12_does 11 = .ok (.bipush 124, 2) := by decide +kernel
theorem dX12_does_13 : decode cX12_does 13 = .ok (.if_icmp .ne 58, 3) := by decide +kernel
theorem dX12_does_16 : decode cX12_does 16 = .ok (.aload_n 0, 1) := by decide +kernel
theorem dX12_does_17 : decode cX12_does 17 = .ok (.getfield 123, 3) := by decide +kernel
theorem dX12_does_20 : decode cX12_does 20 = .ok (.iload_n 2, 1) := by decide +kernel
theorem dX12_does_21 : decode cX12_does 21 = .ok (.baload, 1) := by decide +kernel
theorem dX12_does_22 : decode cX12_does 22 = .ok (.ifCond .ne 23, 3) := by decide +kernel
theorem dX12_does_25 : decode cX12_does 25 = .ok (.aload_n 0, 1) := by decide +kernel
theorem dX12_does_26 : decode cX12_does 26 = .ok (.getfield 120, 3) := by decide +kernel
theorem dX12_does_29 : decode cX12_does 29 = .ok (.iload_n 2, 1) := by decide +kernel
theorem dX12_does_30 : decode cX12_does 30 = .ok (.iaload, 1) := by decide +kernel
theorem dX12_does_31 : decode cX12_does 31 = .ok (.iload_n 1, 1) := by decide +kernel
theorem dX12_does_32 : decode cX12_does 32 = .ok (.bipush 38, 2) := by decide +kernel
theorem dX12_does_34 : decode cX12_does 34 = .ok (.if_icmp .ne 7, 3) := by decide +kernel
theorem dX12_does_37 : decode cX12_does 37 = .ok (.iconst 1, 1) := by decide +kernel
theorem dX12_does_38 : decode cX12_does 38 = .ok (.goto 4, 3) := by decide +kernel
theorem dX12_does_41 : decode cX12_does 41 = .ok (.iconst 0, 1) := by decide +kernel
theorem dX12_does_42 : decode cX12_does 42 = .ok (.if_icmp .eq 4, 3) := by decide +kernel
theorem dX12_does_45 : decode cX12_does 45 = .ok (.return_, 1) := by decide +kernel
theorem dX12_does_46 : decode cX12_does 46 = .ok (.aload_n 0, 1) := by decide +kernel
theorem dX12_does_47 : decode cX12_does 47 = .ok (.getfield 120, 3) := by decide +kernel
theorem dX12_does_50 : decode cX12_does 50 = .ok (.iload_n 2, 1) := by decide +kernel
theorem dX12_does_51 : decode cX12_does 51 = .ok (.aload_n 0, 1) := by decide +kernel
theorem dX12_does_52 : decode cX12_does 52 = .ok (.getfield 120, 3) := by decide +kernel
theorem dX12_does_55 : decode cX12_does 55 = .ok (.iload_n 3, 1) := by decide +kernel
theorem dX12_does_56 : decode cX12_does 56 = .ok (.iaload, 1) := by decide +kernel
theorem dX12_does_57 : decode cX12_does 57 = .ok (.iastore, 1) := by decide +kernel
theorem dX12_does_58 : decode cX12_does 58 = .ok (.aload_n 0, 1) := by decide +kernel
theorem dX12_does_59 : decode cX12_does 59 = .ok (.getfield 123, 3) := by decide +kernel
theorem dX12_does_62 : decode cX12_does 62 = .ok (.iload_n 2, 1) := by decide +kernel
theorem dX12_does_63 : decode cX12_does 63 = .ok (.aload_n 0, 1) := by decide +kernel
theorem dX12_does_64 : decode cX12_does 64 = .ok (.getfield 123, 3) := by decide +kernel
theorem dX12_does_67 : decode cX12_does 67 = .ok (.iload_n 3, 1) := by decide +kernel
theorem dX12_does_68 : decode cX12_does 68 = .ok (.baload, 1) := by decide +kernel
theorem dX12_does_69 : decode cX12_does 69 = .ok (.bastore, 1) := by decide +kernel
theorem dX12_does_70 : decode cX12_does 70 = .ok (.return_, 1) := by decide +kernel
theorem dX12_does_71 : decode cX12_does 71 = .ok (.aload_n 0, 1) := by decide +kernel
theorem dX12_does_72 : decode cX12_does 72 = .ok (.getfield 123, 3) := by decide +kernel
theorem dX12_does_75 : decode cX12_does 75 = .ok (.iload_n 2, 1) := by decide +kernel
theorem dX12_does_76 : decode cX12_does 76 = .ok (.aload_n 0, 1) := by decide +kernel
theorem dX12_does_77 : decode cX12_does 77 = .ok (.getfield 123, 3) := by decide +kernel
theorem dX12_does_80 : decode cX12_does 80 = .ok (.iload_n 2, 1) := by decide +kernel
theorem dX12_does_81 : decode cX12_does 81 = .ok (.baload, 1) := by decide +kernel
theorem dX12_does_82 : decode cX12_does 82 = .ok (.ifCond .ne 33, 3) := by decide +kernel
theorem dX12_does_85 : decode cX12_does 85 = .ok (.aload_n 0, 1) := by decide +kernel
theorem dX12_does_86 : decode cX12_does 86 = .ok (.getfield 123, 3) := by decide +kernel
theorem dX12_does_89 : decode cX12_does 89 = .ok (.iload_n 3, 1) := by decide +kernel
theorem dX12_does_90 : decode cX12_does 90 = .ok (.baload, 1) := by decide +kernel
theorem dX12_does_91 : decode cX12_does 91 = .ok (.ifCond .ne 24, 3) := by decide +kernel
theorem dX12_does_94 : decode cX12_does 94 = .ok (.iload_n 1, 1) := by decide +kernel
theorem dX12_does_95 : decode cX12_does 95 = .ok (.bipush 47, 2) := by decide +kernel
theorem dX12_does_97 : decode cX12_does 97 = .ok (.if_icmp .eq 9, 3) := by decide +kernel
theorem dX12_does_100 : decode cX12_does 100 = .ok (.iload_n 1, 1) := by decide +kernel
theorem dX12_does_101 : decode cX12_does 101 = .ok (.bipush 37, 2) := by decide +kernel
theorem dX12_does_103 : decode cX12_does 103 = .ok (.if_icmp .ne 16, 3) := by decide +kernel
theorem dX12_does_106 : decode cX12_does 106 = .ok (.aload_n 0, 1) := by decide +kernel
theorem dX12_does_107 : decode cX12_does 107 = .ok (.getfield 120, 3) := by decide +kernel
theorem dX12_does_110 : decode cX12_does 110 = .ok (.iload_n 3, 1) := by decide +kernel
theorem dX12_does_111 : decode cX12_does 111 = .ok (.iaload, 1) := by decide +kernel
theorem dX12_does_112 : decode cX12_does 112 = .ok (.ifCond .ne 7, 3) := by decide +kernel
theorem dX12_does_115 : decode cX12_does 115 = .ok (.iconst 1, 1) := by decide +kernel
theorem dX12_does_116 : decode cX12_does 116 = .ok (.goto 4, 3) := by decide +kernel
theorem dX12_does_119 : decode cX12_does 119 = .ok (.iconst 0, 1) := by decide +kernel
theorem dX12_does_120 : decode cX12_does 120 = .ok (.bastore, 1) := by decide +kernel
theorem dX12_does_121 : decode cX12_does 121 = .ok (.aload_n 0, 1) := by decide +kernel
theorem dX12_does_122 : decode cX12_does 122 = .ok (.getfield 120, 3) := by decide +kernel
theorem dX12_does_125 : decode cX12_does 125 = .ok (.iload_n 2, 1) := by decide +kernel
theorem dX12_does_126 : decode cX12_does 126 = .ok (.iload_n 1, 1) := by decide +kernel
theorem dX12_does_127 : decode cX12_does 127 = .ok (.aload_n 0, 1) := by decide +kernel
theorem dX12_does_128 : decode cX12_does 128 = .ok (.getfield 120, 3) := by decide +kernel
theorem dX12_does_131 : decode cX12_does 131 = .ok (.iload_n 2, 1) := by decide +kernel
theorem dX12_does_132 : decode cX12_does 132 = .ok (.iaload, 1) := by decide +kernel
theorem dX12_does_133 : decode cX12_does 133 = .ok (.aload_n 0, 1) := by decide +kernel
theorem dX12_does_134 : decode cX12_does 134 = .ok (.getfield 120, 3) := by decide +kernel
theorem dX12_does_137 : decode cX12_does 137 = .ok (.iload_n 3, 1) := by decide +kernel
theorem dX12_does_138 : decode cX12_does 138 = .ok (.iaload, 1) := by decide +kernel
theorem dX12_does_139 : decode cX12_does 139 = .ok (.invokestatic 403, 3) := by decide +kernel
theorem dX12_does_142 : decode cX12_does 142 = .ok (.iastore, 1) := by decide +kernel
theorem dX12_does_143 : decode cX12_does 143 = .ok (.return_, 1) := by decide +kernel
theorem dX12_works_0 : decode cX12_works 0 = .ok (.iconst 0, 1) := by decide +kernel
theorem dX12_works_1 : decode cX12_works 1 = .ok (.istore_n 3, 1) := by decide +kernel
theorem dX12_works_2 : decode cX12_works 2 = .ok (.iload_n 1, 1) := by decide +kernel
theorem dX12_works_3 : decode cX12_works 3 = .ok (.istore 4, 2) := by decide +kernel
theorem dX12_works_5 : decode cX12_works 5 = .ok (.iload 4, 2) := by decide +kernel
theorem dX12_works_7 : decode cX12_works 7 = .ok (.iload_n 2, 1) := by decide +kernel
theorem dX12_works_8 : decode cX12_works 8 = .ok (.if_icmp .ge 119, 3) := by decide +kernel
theorem dX12_works_11 : decode cX12_works 11 = .ok (.aload_n 0, 1) := by decide +kernel
theorem dX12_works_12 : decode cX12_works 12 = .ok (.getfield 93, 3) := by decide +kernel
theorem dX12_works_15 : decode cX12_works 15 = .ok (.iload 4, 2) := by decide +kernel
theorem dX12_works_17 : decode cX12_works 17 = .ok (.iaload, 1) := by decide +kernel
theorem dX12_works_18 : decode cX12_works 18 = .ok (.iconst 2, 1) := by decide +kernel
theorem dX12_works_19 : decode cX12_works 19 = .ok (.if_icmp .le 23, 3) := by decide +kernel
theorem dX12_works_22 : decode cX12_works 22 = .ok (.iinc 3 (-1), 3) := by decide +kernel
theorem dX12_works_25 : decode cX12_works 25 = .ok (.aload_n 0, 1) := by decide +kernel
theorem dX12_works_26 : decode cX12_works 26 = .ok (.aload_n 0, 1) := by decide +kernel
theorem dX12_works_27 : decode cX12_works 27 = .ok (.getfield 93, 3) := by decide +kernel
theorem dX12_works_30 : decode cX12_works 30 = .ok (.iload 4, 2) := by decide +kernel
theorem dX12_works_32 : decode cX12_works 32 = .ok (.iaload, 1) := by decide +kernel
theorem dX12_works_33 : decode cX12_works 33 = .ok (.iload_n 3, 1) := by decide +kernel
theorem dX12_works_34 : decode cX12_works 34 = .ok (.iconst 1, 1) := by decide +kernel
theorem dX12_works_35 : decode cX12_works 35 = .ok (.isub, 1) := by decide +kernel
theorem dX12_works_36 : decode cX12_works 36 = .ok (.invokevirtual 407, 3) := by decide +kernel
theorem dX12_works_39 : decode cX12_works 39 = .ok (.goto 82, 3) := by decide +kernel
theorem dX12_works_42 : decode cX12_works 42 = .ok (.aload_n 0, 1) := by decide +kernel
theorem dX12_works_43 : decode cX12_works 43 = .ok (.getfield 93, 3) := by decide +kernel
theorem dX12_works_46 : decode cX12_works 46 = .ok (.iload 4, 2) := by decide +kernel
theorem dX12_works_48 : decode cX12_works 48 = .ok (.iaload, 1) := by decide +kernel
theorem dX12_works_49 : decode cX12_works 49 = .ok (.iconst 2, 1) := by decide +kernel
theorem dX12_works_50 : decode cX12_works 50 = .ok (.if_icmp .ne 24, 3) := by decide +kernel
theorem dX12_works_53 : decode cX12_works 53 = .ok (.aload_n 0, 1) := by decide +kernel
theorem dX12_works_54 : decode cX12_works 54 = .ok (.getfield 120, 3) := by decide +kernel
theorem dX12_works_57 : decode cX12_works 57 = .ok (.iload_n 3, 1) := by decide +kernel
theorem dX12_works_58 : decode cX12_works 58 = .ok (.iconst 1, 1) := by decide +kernel
theorem dX12_works_59 : decode cX12_works 59 = .ok (.isub, 1) := by decide +kernel
theorem dX12_works_60 : decode cX12_works 60 = .ok (.iconst 1, 1) := by decide +kernel
theorem dX12_works_61 : decode cX12_works 61 = .ok (.aload_n 0, 1) := by decide +kernel
theorem dX12_works_62 : decode cX12_works 62 = .ok (.getfield 120, 3) := by decide +kernel
theorem dX12_works_65 : decode cX12_works 65 = .ok (.iload_n 3, 1) := by decide +kernel
theorem dX12_works_66 : decode cX12_works 66 = .ok (.iconst 1, 1) := by decide +kernel
theorem dX12_works_67 : decode cX12_works 67 = .ok (.isub, 1) := by decide +kernel
theorem dX12_works_68 : decode cX12_works 68 = .ok (.iaload, 1) := by decide +kernel
theorem dX12_works_69 : decode cX12_works 69 = .ok (.isub, 1) := by decide +kernel
theorem dX12_works_70 : decode cX12_works 70 = .ok (.iastore, 1) := by decide +kernel
theorem dX12_works_71 : decode cX12_works 71 = .ok (.goto 50, 3) := by decide +kernel
theorem dX12_works_74 : decode cX12_works 74 = .ok (.aload_n 0, 1) := by decide +kernel
theorem dX12_works_75 : decode cX12_works 75 = .ok (.getfield 123, 3) := by decide +kernel
theorem dX12_works_78 : decode cX12_works 78 = .ok (.iload_n 3, 1) := by decide +kernel
theorem dX12_works_79 : decode cX12_works 79 = .ok (.iconst 0, 1) := by decide +kernel
theorem dX12_works_80 : decode cX12_works 80 = .ok (.bastore, 1) := by decide +kernel
theorem dX12_works_81 : decode cX12_works 81 = .ok (.aload_n 0, 1) := by decide +kernel
theorem dX12_works_82 : decode cX12_works 82 = .ok (.getfield 120, 3) := by decide +kernel
theorem dX12_works_85 : decode cX12_works 85 = .ok (.iload_n 3, 1) := by decide +kernel
theorem dX12_works_86 : decode cX12_works 86 = .ok (.aload_n 0, 1) := by decide +kernel
theorem dX12_works_87 : decode cX12_works 87 = .ok (.getfield 93, 3) := by decide +kernel
theorem dX12_works_90 : decode cX12_works 90 = .ok (.iload 4, 2) := by decide +kernel
theorem dX12_works_92 : decode cX12_works 92 = .ok (.iaload, 1) := by decide +kernel
theorem dX12_works_93 : decode cX12_works 93 = .ok (.ifCond .ne 13, 3) := by decide +kernel
theorem dX12_works_96 : decode cX12_works 96 = .ok (.aload_n 0, 1) := by decide +kernel
theorem dX12_works_97 : decode cX12_works 97 = .ok (.getfield 96, 3) := by decide +kernel
theorem dX12_works_100 : decode cX12_works 100 = .ok (.iload 4, 2) := by decide +kernel
theorem dX12_works_102 : decode cX12_works 102 = .ok (.iaload, 1) := by decide +kernel
theorem dX12_works_103 : decode cX12_works 103 = .ok (.goto 14, 3) := by decide +kernel
theorem dX12_works_106 : decode cX12_works 106 = .ok (.aload_n 0, 1) := by decide +kernel
theorem dX12_works_107 : decode cX12_works 107 = .ok (.aload_n 0, 1) := by decide +kernel
theorem dX12_works_108 : decode cX12_works 108 = .ok (.getfield 96, 3) := by decide +kernel
theorem dX12_works_111 : decode cX12_works 111 = .ok (.iload 4, 2) := by decide +kernel
theorem dX12_works_113 : decode cX12_works 113 = .ok (.iaload, 1) := by decide +kernel
theorem dX12_works_114 : decode cX12_works 114 = .ok (.invokevirtual 410, 3) := by decide +kernel
theorem dX12_works_117 : decode cX12_works 117 = .ok (.iastore, 1) := by decide +kernel
theorem dX12_works_118 : decode cX12_works 118 = .ok (.iinc 3 1, 3) := by decide +kernel
theorem dX12_works_121 : decode cX12_works 121 = .ok (.iinc 4 1, 3) := by decide +kernel
theorem dX12_works_124 : decode cX12_works 124 = .ok (.goto (-119), 3) := by decide +kernel
theorem dX12_works_127 : decode cX12_works 127 = .ok (.return_, 1) := by decide +kernel
theorem dX12_holds_0 : decode cX12_holds 0 = .ok (.aload_n 0, 1) := by decide +kernel
theorem dX12_holds_1 : decode cX12_holds 1 = .ok (.aload_n 0, 1) := by decide +kernel
theorem dX12_holds_2 : decode cX12_holds 2 = .ok (.getfield 87, 3) := by decide +kernel
theorem dX12_holds_5 : decode cX12_holds 5 = .ok (.iload_n 1, 1) := by decide +kernel
theorem dX12_holds_6 : decode cX12_holds 6 = .ok (.iaload, 1) := by decide +kernel
theorem dX12_holds_7 : decode cX12_holds 7 = .ok (.aload_n 0, 1) := by decide +kernel
theorem dX12_holds_8 : decode cX12_holds 8 = .ok (.getfield 90, 3) := by decide +kernel
theorem dX12_holds_11 : decode cX12_holds 11 = .ok (.iload_n 1, 1) := by decide +kernel
theorem dX12_holds_12 : decode cX12_holds 12 = .ok (.iaload, 1) := by decide +kernel
theorem dX12_holds_13 : decode cX12_holds 13 = .ok (.invokevirtual 413, 3) := by decide +kernel
theorem dX12_holds_16 : decode cX12_holds 16 = .ok (.aload_n 0, 1) := by decide +kernel
theorem dX12_holds_17 : decode cX12_holds 17 = .ok (.getfield 123, 3) := by decide +kernel
theorem dX12_holds_20 : decode cX12_holds 20 = .ok (.iconst 0, 1) := by decide +kernel
theorem dX12_holds_21 : decode cX12_holds 21 = .ok (.baload, 1) := by decide +kernel
theorem dX12_holds_22 : decode cX12_holds 22 = .ok (.ifCond .ne 17, 3) := by decide +kernel
theorem dX12_holds_25 : decode cX12_holds 25 = .ok (.aload_n 0, 1) := by decide +kernel
theorem dX12_holds_26 : decode cX12_holds 26 = .ok (.getfield 120, 3) := by decide +kernel
theorem dX12_holds_29 : decode cX12_holds 29 = .ok (.iconst 0, 1) := by decide +kernel
theorem dX12_holds_30 : decode cX12_holds 30 = .ok (.iaload, 1) := by decide +kernel
theorem dX12_holds_31 : decode cX12_holds 31 = .ok (.iconst 1, 1) := by decide +kernel
theorem dX12_holds_32 : decode cX12_holds 32 = .ok (.if_icmp .ne 7, 3) := by decide +kernel
theorem dX12_holds_35 : decode cX12_holds 35 = .ok (.iconst 1, 1) := by decide +kernel
theorem dX12_holds_36 : decode cX12_holds 36 = .ok (.goto 4, 3) := by decide +kernel
theorem dX12_holds_39 : decode cX12_holds 39 = .ok (.iconst 0, 1) := by decide +kernel
theorem dX12_holds_40 : decode cX12_holds 40 = .ok (.ireturn, 1) := by decide +kernel
theorem dX12_tells_0 : decode cX12_tells 0 = .ok (.iconst 0, 1) := by decide +kernel
theorem dX12_tells_1 : decode cX12_tells 1 = .ok (.istore 5, 2) := by decide +kernel
theorem dX12_tells_3 : decode cX12_tells 3 = .ok (.iload 5, 2) := by decide +kernel
theorem dX12_tells_5 : decode cX12_tells 5 = .ok (.aload_n 0, 1) := by decide +kernel
theorem dX12_tells_6 : decode cX12_tells 6 = .ok (.getfield 375, 3) := by decide +kernel
theorem dX12_tells_9 : decode cX12_tells 9 = .ok (.if_icmp .ge 94, 3) := by decide +kernel
theorem dX12_tells_12 : decode cX12_tells 12 = .ok (.aload_n 0, 1) := by decide +kernel
theorem dX12_tells_13 : decode cX12_tells 13 = .ok (.getfield 81, 3) := by decide +kernel
theorem dX12_tells_16 : decode cX12_tells 16 = .ok (.iload 5, 2) := by decide +kernel
theorem dX12_tells_18 : decode cX12_tells 18 = .ok (.iaload, 1) := by decide +kernel
theorem dX12_tells_19 : decode cX12_tells 19 = .ok (.iload_n 1, 1) := by decide +kernel
theorem dX12_tells_20 : decode cX12_tells 20 = .ok (.if_icmp .ne 77, 3) := by decide +kernel
theorem dX12_tells_23 : decode cX12_tells 23 = .ok (.aload_n 0, 1) := by decide +kernel
theorem dX12_tells_24 : decode cX12_tells 24 = .ok (.iload 5, 2) := by decide +kernel
theorem dX12_tells_26 : decode cX12_tells 26 = .ok (.invokevirtual 416, 3) := by decide +kernel
theorem dX12_tells_29 : decode cX12_tells 29 = .ok (.ifCond .ne 6, 3) := by decide +kernel
theorem dX12_tells_32 : decode cX12_tells 32 = .ok (.goto 65, 3) := by decide +kernel
theorem dX12_tells_35 : decode cX12_tells 35 = .ok (.aload_n 0, 1) := by decide +kernel
theorem dX12_tells_36 : decode cX12_tells 36 = .ok (.aload_n 0, 1) := by decide +kernel
theorem dX12_tells_37 : decode cX12_tells 37 = .ok (.getfield 84, 3) := by decide +kernel
theorem dX12_tells_40 : decode cX12_tells 40 = .ok (.iload 5, 2) := by decide +kernel
theorem dX12_tells_42 : decode cX12_tells 42 = .ok (.iaload, 1) := by decide +kernel
theorem dX12_tells_43 : decode cX12_tells 43 = .ok (.aload_n 0, 1) := by decide +kernel
theorem dX12_tells_44 : decode cX12_tells 44 = .ok (.getfield 87, 3) := by decide +kernel
theorem dX12_tells_47 : decode cX12_tells 47 = .ok (.iload 5, 2) := by decide +kernel
theorem dX12_tells_49 : decode cX12_tells 49 = .ok (.iaload, 1) := by decide +kernel
theorem dX12_tells_50 : decode cX12_tells 50 = .ok (.invokevirtual 413, 3) := by decide +kernel
theorem dX12_tells_53 : decode cX12_tells 53 = .ok (.aload_n 0, 1) := by decide +kernel
theorem dX12_tells_54 : decode cX12_tells 54 = .ok (.getfield 123, 3) := by decide +kernel
theorem dX12_tells_57 : decode cX12_tells 57 = .ok (.iconst 0, 1) := by decide +kernel
theorem dX12_tells_58 : decode cX12_tells 58 = .ok (.baload, 1) := by decide +kernel
theorem dX12_tells_59 : decode cX12_tells 59 = .ok (.ifCond .eq 7, 3) := by decide +kernel
theorem dX12_tells_62 : decode cX12_tells 62 = .ok (.iconst 0, 1) := by decide +kernel
theorem dX12_tells_63 : decode cX12_tells 63 = .ok (.goto 9, 3) := by decide +kernel
theorem dX12_tells_66 : decode cX12_tells 66 = .ok (.aload_n 0, 1) := by decide +kernel
theorem dX12_tells_67 : decode cX12_tells 67 = .ok (.getfield 120, 3) := by decide +kernel
theorem dX12_tells_70 : decode cX12_tells 70 = .ok (.iconst 0, 1) := by decide +kernel
theorem dX12_tells_71 : decode cX12_tells 71 = .ok (.iaload, 1) := by decide +kernel
theorem dX12_tells_72 : decode cX12_tells 72 = .ok (.istore 6, 2) := by decide +kernel
theorem dX12_tells_74 : decode cX12_tells 74 = .ok (.iload 6, 2) := by decide +kernel
theorem dX12_tells_76 : decode cX12_tells 76 = .ok (.iload_n 2, 1) := by decide +kernel
theorem dX12_tells_77 : decode cX12_tells 77 = .ok (.if_icmp .ge 7, 3) := by decide +kernel
theorem dX12_tells_80 : decode cX12_tells 80 = .ok (.iload_n 2, 1) := by decide +kernel
theorem dX12_tells_81 : decode cX12_tells 81 = .ok (.goto 15, 3) := by decide +kernel
theorem dX12_tells_84 : decode cX12_tells 84 = .ok (.iload 6, 2) := by decide +kernel
theorem dX12_tells_86 : decode cX12_tells 86 = .ok (.iload_n 3, 1) := by decide +kernel
theorem dX12_tells_87 : decode cX12_tells 87 = .ok (.if_icmp .le 7, 3) := by decide +kernel
theorem dX12_tells_90 : decode cX12_tells 90 = .ok (.iload_n 3, 1) := by decide +kernel
theorem dX12_tells_91 : decode cX12_tells 91 = .ok (.goto 5, 3) := by decide +kernel
theorem dX12_tells_94 : decode cX12_tells 94 = .ok (.iload 6, 2) := by decide +kernel
theorem dX12_tells_96 : decode cX12_tells 96 = .ok (.ireturn, 1) := by decide +kernel
theorem dX12_tells_97 : decode cX12_tells 97 = .ok (.iinc 5 1, 3) := by decide +kernel
theorem dX12_tells_100 : decode cX12_tells 100 = .ok (.goto (-97), 3) := by decide +kernel
theorem dX12_tells_103 : decode cX12_tells 103 = .ok (.iload 4, 2) := by decide +kernel
theorem dX12_tells_105 : decode cX12_tells 105 = .ok (.ireturn, 1) := by decide +kernel
theorem dX12_some_0 : decode cX12_some 0 = .ok (.iconst 0, 1) := by decide +kernel
theorem dX12_some_1 : decode cX12_some 1 = .ok (.istore_n 2, 1) := by decide +kernel
theorem dX12_some_2 : decode cX12_some 2 = .ok (.iload_n 2, 1) := by decide +kernel
theorem dX12_some_3 : decode cX12_some 3 = .ok (.aload_n 0, 1) := by decide +kernel
theorem dX12_some_4 : decode cX12_some 4 = .ok (.getfield 375, 3) := by decide +kernel
theorem dX12_some_7 : decode cX12_some 7 = .ok (.if_icmp .ge 29, 3) := by decide +kernel
theorem dX12_some_10 : decode cX12_some 10 = .ok (.aload_n 0, 1) := by decide +kernel
theorem dX12_some_11 : decode cX12_some 11 = .ok (.getfield 81, 3) := by decide +kernel
theorem dX12_some_14 : decode cX12_some 14 = .ok (.iload_n 2, 1) := by decide +kernel
theorem dX12_some_15 : decode cX12_some 15 = .ok (.iaload, 1) := by decide +kernel
theorem dX12_some_16 : decode cX12_some 16 = .ok (.iload_n 1, 1) := by decide +kernel
theorem dX12_some_17 : decode cX12_some 17 = .ok (.if_icmp .ne 13, 3) := by decide +kernel
theorem dX12_some_20 : decode cX12_some 20 = .ok (.aload_n 0, 1) := by decide +kernel
theorem dX12_some_21 : decode cX12_some 21 = .ok (.iload_n 2, 1) := by decide +kernel
theorem dX12_some_22 : decode cX12_some 22 = .ok (.invokevirtual 416, 3) := by decide +kernel
theorem dX12_some_25 : decode cX12_some 25 = .ok (.ifCond .eq 5, 3) := by decide +kernel
theorem dX12_some_28 : decode cX12_some 28 = .ok (.iconst 1, 1) := by decide +kernel
theorem dX12_some_29 : decode cX12_some 29 = .ok (.ireturn, 1) := by decide +kernel
theorem dX12_some_30 : decode cX12_some 30 = .ok (.iinc 2 1, 3) := by decide +kernel
theorem dX12_some_33 : decode cX12_some 33 = .ok (.goto (-31), 3) := by decide +kernel
theorem dX12_some_36 : decode cX12_some 36 = .ok (.iconst 0, 1) := by decide +kernel
theorem dX12_some_37 : decode cX12_some 37 = .ok (.ireturn, 1) := by decide +kernel
theorem dX12_all_0 : decode cX12_all 0 = .ok (.iconst 0, 1) := by decide +kernel
theorem dX12_all_1 : decode cX12_all 1 = .ok (.istore_n 2, 1) := by decide +kernel
theorem dX12_all_2 : decode cX12_all 2 = .ok (.iload_n 2, 1) := by decide +kernel
theorem dX12_all_3 : decode cX12_all 3 = .ok (.aload_n 0, 1) := by decide +kernel
theorem dX12_all_4 : decode cX12_all 4 = .ok (.getfield 375, 3) := by decide +kernel
theorem dX12_all_7 : decode cX12_all 7 = .ok (.if_icmp .ge 29, 3) := by decide +kernel
theorem dX12_all_10 : decode cX12_all 10 = .ok (.aload_n 0, 1) := by decide +kernel
theorem dX12_all_11 : decode cX12_all 11 = .ok (.getfield 81, 3) := by decide +kernel
theorem dX12_all_14 : decode cX12_all 14 = .ok (.iload_n 2, 1) := by decide +kernel
theorem dX12_all_15 : decode cX12_all 15 = .ok (.iaload, 1) := by decide +kernel
theorem dX12_all_16 : decode cX12_all 16 = .ok (.iload_n 1, 1) := by decide +kernel
theorem dX12_all_17 : decode cX12_all 17 = .ok (.if_icmp .ne 13, 3) := by decide +kernel
theorem dX12_all_20 : decode cX12_all 20 = .ok (.aload_n 0, 1) := by decide +kernel
theorem dX12_all_21 : decode cX12_all 21 = .ok (.iload_n 2, 1) := by decide +kernel
theorem dX12_all_22 : decode cX12_all 22 = .ok (.invokevirtual 416, 3) := by decide +kernel
theorem dX12_all_25 : decode cX12_all 25 = .ok (.ifCond .ne 5, 3) := by decide +kernel
theorem dX12_all_28 : decode cX12_all 28 = .ok (.iconst 0, 1) := by decide +kernel
theorem dX12_all_29 : decode cX12_all 29 = .ok (.ireturn, 1) := by decide +kernel
theorem dX12_all_30 : decode cX12_all 30 = .ok (.iinc 2 1, 3) := by decide +kernel
theorem dX12_all_33 : decode cX12_all 33 = .ok (.goto (-31), 3) := by decide +kernel
theorem dX12_all_36 : decode cX12_all 36 = .ok (.iconst 1, 1) := by decide +kernel
theorem dX12_all_37 : decode cX12_all 37 = .ok (.ireturn, 1) := by decide +kernel
theorem dX12_isOf_0 : decode cX12_isOf 0 = .ok (.aload_n 0, 1) := by decide +kernel
theorem dX12_isOf_1 : decode cX12_isOf 1 = .ok (.getfield 126, 3) := by decide +kernel
theorem dX12_isOf_4 : decode cX12_isOf 4 = .ok (.iload_n 1, 1) := by decide +kernel
theorem dX12_isOf_5 : decode cX12_isOf 5 = .ok (.iaload, 1) := by decide +kernel
theorem dX12_isOf_6 : decode cX12_isOf 6 = .ok (.aload_n 0, 1) := by decide +kernel
theorem dX12_isOf_7 : decode cX12_isOf 7 = .ok (.getfield 23, 3) := by decide +kernel
theorem dX12_isOf_10 : decode cX12_isOf 10 = .ok (.aload_n 0, 1) := by decide +kernel
theorem dX12_isOf_11 : decode cX12_isOf 11 = .ok (.getfield 35, 3) := by decide +kernel
theorem dX12_isOf_14 : decode cX12_isOf 14 = .ok (.iload_n 2, 1) := by decide +kernel
theorem dX12_isOf_15 : decode cX12_isOf 15 = .ok (.iaload, 1) := by decide +kernel
theorem dX12_isOf_16 : decode cX12_isOf 16 = .ok (.iaload, 1) := by decide +kernel
theorem dX12_isOf_17 : decode cX12_isOf 17 = .ok (.if_icmp .ne 34, 3) := by decide +kernel
theorem dX12_isOf_20 : decode cX12_isOf 20 = .ok (.aload_n 0, 1) := by decide +kernel
theorem dX12_isOf_21 : decode cX12_isOf 21 = .ok (.getfield 38, 3) := by decide +kernel
theorem dX12_isOf_24 : decode cX12_isOf 24 = .ok (.iload_n 2, 1) := by decide +kernel
theorem dX12_isOf_25 : decode cX12_isOf 25 = .ok (.iaload, 1) := by decide +kernel
theorem dX12_isOf_26 : decode cX12_isOf 26 = .ok (.i2l, 1) := by decide +kernel
theorem dX12_isOf_27 : decode cX12_isOf 27 = .ok (.aload_n 0, 1) := by decide +kernel
theorem dX12_isOf_28 : decode cX12_isOf 28 = .ok (.getfield 129, 3) := by decide +kernel
theorem dX12_isOf_31 : decode cX12_isOf 31 = .ok (.iload_n 1, 1) := by decide +kernel
theorem dX12_isOf_32 : decode cX12_isOf 32 = .ok (.iaload, 1) := by decide +kernel
theorem dX12_isOf_33 : decode cX12_isOf 33 = .ok (.i2l, 1) := by decide +kernel
theorem dX12_isOf_34 : decode cX12_isOf 34 = .ok (.aload_n 0, 1) := by decide +kernel
theorem dX12_isOf_35 : decode cX12_isOf 35 = .ok (.getfield 132, 3) := by decide +kernel
theorem dX12_isOf_38 : decode cX12_isOf 38 = .ok (.iload_n 1, 1) := by decide +kernel
theorem dX12_isOf_39 : decode cX12_isOf 39 = .ok (.iaload, 1) := by decide +kernel
theorem dX12_isOf_40 : decode cX12_isOf 40 = .ok (.i2l, 1) := by decide +kernel
theorem dX12_isOf_41 : decode cX12_isOf 41 = .ok (.invokestatic 203, 3) := by decide +kernel
theorem dX12_isOf_44 : decode cX12_isOf 44 = .ok (.ifCond .eq 7, 3) := by decide +kernel
theorem dX12_isOf_47 : decode cX12_isOf 47 = .ok (.iconst 1, 1) := by decide +kernel
theorem dX12_isOf_48 : decode cX12_isOf 48 = .ok (.goto 4, 3) := by decide +kernel
theorem dX12_isOf_51 : decode cX12_isOf 51 = .ok (.iconst 0, 1) := by decide +kernel
theorem dX12_isOf_52 : decode cX12_isOf 52 = .ok (.ireturn, 1) := by decide +kernel
theorem dX12_isRecalled_0 : decode cX12_isRecalled 0 = .ok (.iconst 0, 1) := by decide +kernel
theorem dX12_isRecalled_1 : decode cX12_isRecalled 1 = .ok (.istore_n 2, 1) := by decide +kernel
theorem dX12_isRecalled_2 : decode cX12_isRecalled 2 = .ok (.iload_n 2, 1) := by decide +kernel
theorem dX12_isRecalled_3 : decode cX12_isRecalled 3 = .ok (.aload_n 0, 1) := by decide +kernel
theorem dX12_isRecalled_4 : decode cX12_isRecalled 4 = .ok (.getfield 419, 3) := by decide +kernel
theorem dX12_isRecalled_7 : decode cX12_isRecalled 7 = .ok (.if_icmp .ge 20, 3) := by decide +kernel
theorem dX12_isRecalled_10 : decode cX12_isRecalled 10 = .ok (.aload_n 0, 1) := by decide +kernel
theorem dX12_isRecalled_11 : decode cX12_isRecalled 11 = .ok (.iload_n 2, 1) := by decide +kernel
theorem dX12_isRecalled_12 : decode cX12_isRecalled 12 = .ok (.iload_n 1, 1) := by decide +kernel
theorem dX12_isRecalled_13 : decode cX12_isRecalled 13 = .ok (.invokevirtual 422, 3) := by decide +kernel
theorem dX12_isRecalled_16 : decode cX12_isRecalled 16 = .ok (.ifCond .eq 5, 3) := by decide +kernel
theorem dX12_isRecalled_19 : decode cX12_isRecalled 19 = .ok (.iconst 1, 1) := by decide +kernel
theorem dX12_isRecalled_20 : decode cX12_isRecalled 20 = .ok (.ireturn, 1) := by decide +kernel
theorem dX12_isRecalled_21 : decode cX12_isRecalled 21 = .ok (.iinc 2 1, 3) := by decide +kernel
theorem dX12_isRecalled_24 : decode cX12_isRecalled 24 = .ok (.goto (-22), 3) := by decide +kernel
theorem dX12_isRecalled_27 : decode cX12_isRecalled 27 = .ok (.iconst 0, 1) := by decide +kernel
theorem dX12_isRecalled_28 : decode cX12_isRecalled 28 = .ok (.ireturn, 1) := by decide +kernel
theorem dX12_isBarred_0 : decode cX12_isBarred 0 = .ok (.iconst 0, 1) := by decide +kernel
theorem dX12_isBarred_1 : decode cX12_isBarred 1 = .ok (.istore_n 3, 1) := by decide +kernel
theorem dX12_isBarred_2 : decode cX12_isBarred 2 = .ok (.iload_n 3, 1) := by decide +kernel
theorem dX12_isBarred_3 : decode cX12_isBarred 3 = .ok (.aload_n 0, 1) := by decide +kernel
theorem dX12_isBarred_4 : decode cX12_isBarred 4 = .ok (.getfield 426, 3) := by decide +kernel
theorem dX12_isBarred_7 : decode cX12_isBarred 7 = .ok (.if_icmp .ge 108, 3) := by decide +kernel
theorem dX12_isBarred_10 : decode cX12_isBarred 10 = .ok (.aload_n 0, 1) := by decide +kernel
theorem dX12_isBarred_11 : decode cX12_isBarred 11 = .ok (.getfield 150, 3) := by decide +kernel
theorem dX12_isBarred_14 : decode cX12_isBarred 14 = .ok (.iload_n 3, 1) := by decide +kernel
theorem dX12_isBarred_15 : decode cX12_isBarred 15 = .ok (.iaload, 1) := by decide +kernel
theorem dX12_isBarred_16 : decode cX12_isBarred 16 = .ok (.istore 4, 2) := by decide +kernel
theorem dX12_isBarred_18 : decode cX12_isBarred 18 = .ok (.aload_n 0, 1) := by decide +kernel
theorem dX12_isBarred_19 : decode cX12_isBarred 19 = .ok (.getfield 144, 3) := by decide +kernel
theorem dX12_isBarred_22 : decode cX12_isBarred 22 = .ok (.iload_n 3, 1) := by decide +kernel
theorem dX12_isBarred_23 : decode cX12_isBarred 23 = .ok (.iaload, 1) := by decide +kernel
theorem dX12_isBarred_24 : decode cX12_isBarred 24 = .ok (.iload_n 1, 1) := by decide +kernel
theorem dX12_isBarred_25 : decode cX12_isBarred 25 = .ok (.if_icmp .eq 6, 3) := by decide +kernel
theorem dX12_isBarred_28 : decode cX12_isBarred 28 = .ok (.goto 81, 3) := by decide +kernel
theorem dX12_isBarred_31 : decode cX12_isBarred 31 = .ok (.aload_n 0, 1) := by decide +kernel
theorem dX12_isBarred_32 : decode cX12_isBarred 32 = .ok (.getfield 147, 3) := by decide +kernel
theorem dX12_isBarred_35 : decode cX12_isBarred 35 = .ok (.iload_n 3, 1) := by decide +kernel
theorem dX12_isBarred_36 : decode cX12_isBarred 36 = .ok (.iaload, 1) := by decide +kernel
theorem dX12_isBarred_37 : decode cX12_isBarred 37 = .ok (.ifCond .ne 14, 3) := by decide +kernel
theorem dX12_isBarred_40 : decode cX12_isBarred 40 = .ok (.aload_n 0, 1) := by decide +kernel
theorem dX12_isBarred_41 : decode cX12_isBarred 41 = .ok (.getfield 75, 3) := by decide +kernel
theorem dX12_isBarred_44 : decode cX12_isBarred 44 = .ok (.iload_n 2, 1) := by decide +kernel
theorem dX12_isBarred_45 : decode cX12_isBarred 45 = .ok (.iaload, 1) := by decide +kernel
theorem dX12_isBarred_46 : decode cX12_isBarred 46 = .ok (.iload 4, 2) := by decide +kernel
theorem dX12_isBarred_48 : decode cX12_isBarred 48 = .ok (.if_icmp .ne 59, 3) := by decide +kernel
theorem dX12_isBarred_51 : decode cX12_isBarred 51 = .ok (.aload_n 0, 1) := by decide +kernel
theorem dX12_isBarred_52 : decode cX12_isBarred 52 = .ok (.getfield 147, 3) := by decide +kernel
theorem dX12_isBarred_55 : decode cX12_isBarred 55 = .ok (.iload_n 3, 1) := by decide +kernel
theorem dX12_isBarred_56 : decode cX12_isBarred 56 = .ok (.iaload, 1) := by decide +kernel
theorem dX12_isBarred_57 : decode cX12_isBarred 57 = .ok (.iconst 1, 1) := by decide +kernel
theorem dX12_isBarred_58 : decode cX12_isBarred 58 = .ok (.if_icmp .ne 9, 3) := by decide +kernel
theorem dX12_isBarred_61 : decode cX12_isBarred 61 = .ok (.iload_n 2, 1) := by decide +kernel
theorem dX12_isBarred_62 : decode cX12_isBarred 62 = .ok (.iload 4, 2) := by decide +kernel
theorem dX12_isBarred_64 : decode cX12_isBarred 64 = .ok (.if_icmp .eq 43, 3) := by decide +kernel
theorem dX12_isBarred_67 : decode cX12_isBarred 67 = .ok (.aload_n 0, 1) := by decide +kernel
theorem dX12_isBarred_68 : decode cX12_isBarred 68 = .ok (.getfield 147, 3) := by decide +kernel
theorem dX12_isBarred_71 : decode cX12_isBarred 71 = .ok (.iload_n 3, 1) := by decide +kernel
theorem dX12_isBarred_72 : decode cX12_isBarred 72 = .ok (.iaload, 1) := by decide +kernel
theorem dX12_isBarred_73 : decode cX12_isBarred 73 = .ok (.iconst 2, 1) := by decide +kernel
theorem dX12_isBarred_74 : decode cX12_isBarred 74 = .ok (.if_icmp .ne 12, 3) := by decide +kernel
theorem dX12_isBarred_77 : decode cX12_isBarred 77 = .ok (.aload_n 0, 1) := by decide +kernel
theorem dX12_isBarred_78 : decode cX12_isBarred 78 = .ok (.getfield 219, 3) := by decide +kernel
theorem dX12_isBarred_81 : decode cX12_isBarred 81 = .ok (.iload 4, 2) := by decide +kernel
theorem dX12_isBarred_83 : decode cX12_isBarred 83 = .ok (.if_icmp .gt 24, 3) := by decide +kernel
theorem dX12_isBarred_86 : decode cX12_isBarred 86 = .ok (.aload_n 0, 1) := by decide +kernel
theorem dX12_isBarred_87 : decode cX12_isBarred 87 = .ok (.getfield 147, 3) := by decide +kernel
theorem dX12_isBarred_90 : decode cX12_isBarred 90 = .ok (.iload_n 3, 1) := by decide +kernel
theorem dX12_isBarred_91 : decode cX12_isBarred 91 = .ok (.iaload, 1) := by decide +kernel
theorem dX12_isBarred_92 : decode cX12_isBarred 92 = .ok (.iconst 3, 1) := by decide +kernel
theorem dX12_isBarred_93 : decode cX12_isBarred 93 = .ok (.if_icmp .ne 16, 3) := by decide +kernel
theorem dX12_isBarred_96 : decode cX12_isBarred 96 = .ok (.aload_n 0, 1) := by decide +kernel
theorem dX12_isBarred_97 : decode cX12_isBarred 97 = .ok (.getfield 72, 3) := by decide +kernel
theorem dX12_isBarred_100 : decode cX12_isBarred 100 = .ok (.iload_n 2, 1) := by decide +kernel
theorem dX12_isBarred_101 : decode cX12_isBarred 101 = .ok (.iaload, 1) := by decide +kernel
theorem dX12_isBarred_102 : decode cX12_isBarred 102 = .ok (.iload 4, 2) := by decide +kernel
theorem dX12_isBarred_104 : decode cX12_isBarred 104 = .ok (.if_icmp .ge 5, 3) := by decide +kernel
theorem dX12_isBarred_107 : decode cX12_isBarred 107 = .ok (.iconst 1, 1) := by decide +kernel
theorem dX12_isBarred_108 : decode cX12_isBarred 108 = .ok (.ireturn, 1) := by decide +kernel
theorem dX12_isBarred_109 : decode cX12_isBarred 109 = .ok (.iinc 3 1, 3) := by decide +kernel
theorem dX12_isBarred_112 : decode cX12_isBarred 112 = .ok (.goto (-110), 3) := by decide +kernel
theorem dX12_isBarred_115 : decode cX12_isBarred 115 = .ok (.iconst 0, 1) := by decide +kernel
theorem dX12_isBarred_116 : decode cX12_isBarred 116 = .ok (.ireturn, 1) := by decide +kernel
theorem dX12_hadNow_0 : decode cX12_hadNow 0 = .ok (.iconst 0, 1) := by decide +kernel
theorem dX12_hadNow_1 : decode cX12_hadNow 1 = .ok (.istore_n 2, 1) := by decide +kernel
theorem dX12_hadNow_2 : decode cX12_hadNow 2 = .ok (.iconst 0, 1) := by decide +kernel
theorem dX12_hadNow_3 : decode cX12_hadNow 3 = .ok (.istore_n 3, 1) := by decide +kernel
theorem dX12_hadNow_4 : decode cX12_hadNow 4 = .ok (.iload_n 3, 1) := by decide +kernel
theorem dX12_hadNow_5 : decode cX12_hadNow 5 = .ok (.aload_n 0, 1) := by decide +kernel
theorem dX12_hadNow_6 : decode cX12_hadNow 6 = .ok (.getfield 211, 3) := by decide +kernel
theorem dX12_hadNow_9 : decode cX12_hadNow 9 = .ok (.if_icmp .ge 43, 3) := by decide +kernel
theorem dX12_hadNow_12 : decode cX12_hadNow 12 = .ok (.iload_n 2, 1) := by decide +kernel
theorem dX12_hadNow_13 : decode cX12_hadNow 13 = .ok (.aload_n 0, 1) := by decide +kernel
theorem dX12_hadNow_14 : decode cX12_hadNow 14 = .ok (.getfield 44, 3) := by decide +kernel
theorem dX12_hadNow_17 : decode cX12_hadNow 17 = .ok (.iload_n 3, 1) := by decide +kernel
theorem dX12_hadNow_18 : decode cX12_hadNow 18 = .ok (.iaload, 1) := by decide +kernel
theorem dX12_hadNow_19 : decode cX12_hadNow 19 = .ok (.iconst 1, 1) := by decide +kernel
theorem dX12_hadNow_20 : decode cX12_hadNow 20 = .ok (.if_icmp .ne 23, 3) := by decide +kernel
theorem dX12_hadNow_23 : decode cX12_hadNow 23 = .ok (.aload_n 0, 1) := by decide +kernel
theorem dX12_hadNow_24 : decode cX12_hadNow 24 = .ok (.iload_n 1, 1) := by decide +kernel
theorem dX12_hadNow_25 : decode cX12_hadNow 25 = .ok (.iload_n 3, 1) := by decide +kernel
theorem dX12_hadNow_26 : decode cX12_hadNow 26 = .ok (.invokevirtual 422, 3) := by decide +kernel
theorem dX12_hadNow_29 : decode cX12_hadNow 29 = .ok (.ifCond .eq 14, 3) := by decide +kernel
theorem dX12_hadNow_32 : decode cX12_hadNow 32 = .ok (.iconst 1, 1) := by decide +kernel
theorem dX12_hadNow_33 : decode cX12_hadNow 33 = .ok (.aload_n 0, 1) := by decide +kernel
theorem dX12_hadNow_34 : decode cX12_hadNow 34 = .ok (.getfield 47, 3) := by decide +kernel
theorem dX12_hadNow_37 : decode cX12_hadNow 37 = .ok (.iload_n 3, 1) := by decide +kernel
theorem dX12_hadNow_38 : decode cX12_hadNow 38 = .ok (.iaload, 1) := by decide +kernel
theorem dX12_hadNow_39 : decode cX12_hadNow 39 = .ok (.ishl, 1) := by decide +kernel
theorem dX12_hadNow_40 : decode cX12_hadNow 40 = .ok (.goto 4, 3) := by decide +kernel
theorem dX12_hadNow_43 : decode cX12_hadNow 43 = .ok (.iconst 0, 1) := by decide +kernel
theorem dX12_hadNow_44 : decode cX12_hadNow 44 = .ok (.ior, 1) := by decide +kernel
theorem dX12_hadNow_45 : decode cX12_hadNow 45 = .ok (.istore_n 2, 1) := by decide +kernel
theorem dX12_hadNow_46 : decode cX12_hadNow 46 = .ok (.iinc 3 1, 3) := by decide +kernel
theorem dX12_hadNow_49 : decode cX12_hadNow 49 = .ok (.goto (-45), 3) := by decide +kernel
theorem dX12_hadNow_52 : decode cX12_hadNow 52 = .ok (.iload_n 2, 1) := by decide +kernel
theorem dX12_hadNow_53 : decode cX12_hadNow 53 = .ok (.ireturn, 1) := by decide +kernel
theorem dX12_recall_0 : decode cX12_recall 0 = .ok (.aload_n 0, 1) := by decide +kernel
theorem dX12_recall_1 : decode cX12_recall 1 = .ok (.getfield 419, 3) := by decide +kernel
theorem dX12_recall_4 : decode cX12_recall 4 = .ok (.bipush 10, 2) := by decide +kernel
theorem dX12_recall_6 : decode cX12_recall 6 = .ok (.if_icmp .eq 40, 3) := by decide +kernel
theorem dX12_recall_9 : decode cX12_recall 9 = .ok (.iload_n 1, 1) := by decide +kernel
theorem dX12_recall_10 : decode cX12_recall 10 = .ok (.i2l, 1) := by decide +kernel
theorem dX12_recall_11 : decode cX12_recall 11 = .ok (.lconst 0, 1) := by decide +kernel
theorem dX12_recall_12 : decode cX12_recall 12 = .ok (.ldc2_w 217, 3) := by decide +kernel
theorem dX12_recall_15 : decode cX12_recall 15 = .ok (.invokestatic 203, 3) := by decide +kernel
theorem dX12_recall_18 : decode cX12_recall 18 = .ok (.ifCond .eq 28, 3) := by decide +kernel
theorem dX12_recall_21 : decode cX12_recall 21 = .ok (.iload_n 2, 1) := by decide +kernel
theorem dX12_recall_22 : decode cX12_recall 22 = .ok (.i2l, 1) := by decide +kernel
theorem dX12_recall_23 : decode cX12_recall 23 = .ok (.lconst 0, 1) := by decide +kernel
theorem dX12_recall_24 : decode cX12_recall 24 = .ok (.ldc2_w 241, 3) := by decide +kernel
theorem dX12_recall_27 : decode cX12_recall 27 = .ok (.invokestatic 203, 3) := by decide +kernel
theorem dX12_recall_30 : decode cX12_recall 30 = .ok (.ifCond .eq 16, 3) := by decide +kernel
theorem dX12_recall_33 : decode cX12_recall 33 = .ok (.iload_n 3, 1) := by decide +kernel
theorem dX12_recall_34 : decode cX12_recall 34 = .ok (.i2l, 1) := by decide +kernel
theorem dX12_recall_35 : decode cX12_recall 35 = .ok (.iload_n 2, 1) := by decide +kernel
theorem dX12_recall_36 : decode cX12_recall 36 = .ok (.i2l, 1) := by decide +kernel
theorem dX12_recall_37 : decode cX12_recall 37 = .ok (.ldc2_w 241, 3) := by decide +kernel
theorem dX12_recall_40 : decode cX12_recall 40 = .ok (.invokestatic 203, 3) := by decide +kernel
theorem dX12_recall_43 : decode cX12_recall 43 = .ok (.ifCond .ne 5, 3) := by decide +kernel
theorem dX12_recall_46 : decode cX12_recall 46 = .ok (.iconst (-1), 1) := by decide +kernel
theorem dX12_recall_47 : decode cX12_recall 47 = .ok (.ireturn, 1) := by decide +kernel
theorem dX12_recall_48 : decode cX12_recall 48 = .ok (.aload_n 0, 1) := by decide +kernel
theorem dX12_recall_49 : decode cX12_recall 49 = .ok (.getfield 126, 3) := by decide +kernel
theorem dX12_recall_52 : decode cX12_recall 52 = .ok (.aload_n 0, 1) := by decide +kernel
theorem dX12_recall_53 : decode cX12_recall 53 = .ok (.getfield 419, 3) := by decide +kernel
theorem dX12_recall_56 : decode cX12_recall 56 = .ok (.iload_n 1, 1) := by decide +kernel
theorem dX12_recall_57 : decode cX12_recall 57 = .ok (.iastore, 1) := by decide +kernel
theorem dX12_recall_58 : decode cX12_recall 58 = .ok (.aload_n 0, 1) := by decide +kernel
theorem dX12_recall_59 : decode cX12_recall 59 = .ok (.getfield 129, 3) := by decide +kernel
theorem dX12_recall_62 : decode cX12_recall 62 = .ok (.aload_n 0, 1) := by decide +kernel
theorem dX12_recall_63 : decode cX12_recall 63 = .ok (.getfield 419, 3) := by decide +kernel
theorem dX12_recall_66 : decode cX12_recall 66 = .ok (.iload_n 2, 1) := by decide +kernel
theorem dX12_recall_67 : decode cX12_recall 67 = .ok (.iastore, 1) := by decide +kernel
theorem dX12_recall_68 : decode cX12_recall 68 = .ok (.aload_n 0, 1) := by decide +kernel
theorem dX12_recall_69 : decode cX12_recall 69 = .ok (.getfield 132, 3) := by decide +kernel
theorem dX12_recall_72 : decode cX12_recall 72 = .ok (.aload_n 0, 1) := by decide +kernel
theorem dX12_recall_73 : decode cX12_recall 73 = .ok (.getfield 419, 3) := by decide +kernel
theorem dX12_recall_76 : decode cX12_recall 76 = .ok (.iload_n 3, 1) := by decide +kernel
theorem dX12_recall_77 : decode cX12_recall 77 = .ok (.iastore, 1) := by decide +kernel
theorem dX12_recall_78 : decode cX12_recall 78 = .ok (.aload_n 0, 1) := by decide +kernel
theorem dX12_recall_79 : decode cX12_recall 79 = .ok (.getfield 135, 3) := by decide +kernel
theorem dX12_recall_82 : decode cX12_recall 82 = .ok (.aload_n 0, 1) := by decide +kernel
theorem dX12_recall_83 : decode cX12_recall 83 = .ok (.getfield 419, 3) := by decide +kernel
theorem dX12_recall_86 : decode cX12_recall 86 = .ok (.aload_n 0, 1) := by decide +kernel
theorem dX12_recall_87 : decode cX12_recall 87 = .ok (.getfield 219, 3) := by decide +kernel
theorem dX12_recall_90 : decode cX12_recall 90 = .ok (.iastore, 1) := by decide +kernel
theorem dX12_recall_91 : decode cX12_recall 91 = .ok (.aload_n 0, 1) := by decide +kernel
theorem dX12_recall_92 : decode cX12_recall 92 = .ok (.getfield 138, 3) := by decide +kernel
theorem dX12_recall_95 : decode cX12_recall 95 = .ok (.aload_n 0, 1) := by decide +kernel
theorem dX12_recall_96 : decode cX12_recall 96 = .ok (.getfield 419, 3) := by decide +kernel
theorem dX12_recall_99 : decode cX12_recall 99 = .ok (.aload_n 0, 1) := by decide +kernel
theorem dX12_recall_100 : decode cX12_recall 100 = .ok (.aload_n 0, 1) := by decide +kernel
theorem dX12_recall_101 : decode cX12_recall 101 = .ok (.getfield 419, 3) := by decide +kernel
theorem dX12_recall_104 : decode cX12_recall 104 = .ok (.invokevirtual 429, 3) := by decide +kernel
theorem dX12_recall_107 : decode cX12_recall 107 = .ok (.iastore, 1) := by decide +kernel
theorem dX12_recall_108 : decode cX12_recall 108 = .ok (.aload_n 0, 1) := by decide +kernel
theorem dX12_recall_109 : decode cX12_recall 109 = .ok (.dup, 1) := by decide +kernel
theorem dX12_recall_110 : decode cX12_recall 110 = .ok (.getfield 419, 3) := by decide +kernel
theorem dX12_recall_113 : decode cX12_recall 113 = .ok (.iconst 1, 1) := by decide +kernel
theorem dX12_recall_114 : decode cX12_recall 114 = .ok (.iadd, 1) := by decide +kernel
theorem dX12_recall_115 : decode cX12_recall 115 = .ok (.putfield 419, 3) := by decide +kernel
theorem dX12_recall_118 : decode cX12_recall 118 = .ok (.aload_n 0, 1) := by decide +kernel
theorem dX12_recall_119 : decode cX12_recall 119 = .ok (.getfield 419, 3) := by decide +kernel
theorem dX12_recall_122 : decode cX12_recall 122 = .ok (.iconst 1, 1) := by decide +kernel
theorem dX12_recall_123 : decode cX12_recall 123 = .ok (.isub, 1) := by decide +kernel
theorem dX12_recall_124 : decode cX12_recall 124 = .ok (.ireturn, 1) := by decide +kernel
theorem dX12_isRecall_0 : decode cX12_isRecall 0 = .ok (.iload_n 1, 1) := by decide +kernel
theorem dX12_isRecall_1 : decode cX12_isRecall 1 = .ok (.i2l, 1) := by decide +kernel
theorem dX12_isRecall_2 : decode cX12_isRecall 2 = .ok (.lconst 0, 1) := by decide +kernel
theorem dX12_isRecall_3 : decode cX12_isRecall 3 = .ok (.aload_n 0, 1) := by decide +kernel
theorem dX12_isRecall_4 : decode cX12_isRecall 4 = .ok (.getfield 419, 3) := by decide +kernel
theorem dX12_isRecall_7 : decode cX12_isRecall 7 = .ok (.iconst 1, 1) := by decide +kernel
theorem dX12_isRecall_8 : decode cX12_isRecall 8 = .ok (.isub, 1) := by decide +kernel
theorem dX12_isRecall_9 : decode cX12_isRecall 9 = .ok (.i2l, 1) := by decide +kernel
theorem dX12_isRecall_10 : decode cX12_isRecall 10 = .ok (.invokestatic 203, 3) := by decide +kernel
theorem dX12_isRecall_13 : decode cX12_isRecall 13 = .ok (.ireturn, 1) := by decide +kernel
theorem dX12_told_0 : decode cX12_told 0 = .ok (.aload_n 0, 1) := by decide +kernel
theorem dX12_told_1 : decode cX12_told 1 = .ok (.iload_n 1, 1) := by decide +kernel
theorem dX12_told_2 : decode cX12_told 2 = .ok (.invokevirtual 432, 3) := by decide +kernel
theorem dX12_told_5 : decode cX12_told 5 = .ok (.ifCond .eq 26, 3) := by decide +kernel
theorem dX12_told_8 : decode cX12_told 8 = .ok (.aload_n 0, 1) := by decide +kernel
theorem dX12_told_9 : decode cX12_told 9 = .ok (.iload_n 2, 1) := by decide +kernel
theorem dX12_told_10 : decode cX12_told 10 = .ok (.invokevirtual 435, 3) := by decide +kernel
theorem dX12_told_13 : decode cX12_told 13 = .ok (.ifCond .eq 18, 3) := by decide +kernel
theorem dX12_told_16 : decode cX12_told 16 = .ok (.aload_n 0, 1) := by decide +kernel
theorem dX12_told_17 : decode cX12_told 17 = .ok (.getfield 141, 3) := by decide +kernel
theorem dX12_told_20 : decode cX12_told 20 = .ok (.bipush 10, 2) := by decide +kernel
theorem dX12_told_22 : decode cX12_told 22 = .ok (.iload_n 1, 1) := by decide +kernel
theorem dX12_told_23 : decode cX12_told 23 = .ok (.imul, 1) := by decide +kernel
theorem dX12_told_24 : decode cX12_told 24 = .ok (.iload_n 2, 1) := by decide +kernel
theorem dX12_told_25 : decode cX12_told 25 = .ok (.iadd, 1) := by decide +kernel
theorem dX12_told_26 : decode cX12_told 26 = .ok (.iaload, 1) := by decide +kernel
theorem dX12_told_27 : decode cX12_told 27 = .ok (.iconst (-1), 1) := by decide +kernel
theorem dX12_told_28 : decode cX12_told 28 = .ok (.if_icmp .eq 5, 3) := by decide +kernel
theorem dX12_told_31 : decode cX12_told 31 = .ok (.iconst 0, 1) := by decide +kernel
theorem dX12_told_32 : decode cX12_told 32 = .ok (.ireturn, 1) := by decide +kernel
theorem dX12_told_33 : decode cX12_told 33 = .ok (.aload_n 0, 1) := by decide +kernel
theorem dX12_told_34 : decode cX12_told 34 = .ok (.getfield 141, 3) := by decide +kernel
theorem dX12_told_37 : decode cX12_told 37 = .ok (.bipush 10, 2) := by decide +kernel
theorem dX12_told_39 : decode cX12_told 39 = .ok (.iload_n 1, 1) := by decide +kernel
theorem dX12_told_40 : decode cX12_told 40 = .ok (.imul, 1) := by decide +kernel
theorem dX12_told_41 : decode cX12_told 41 = .ok (.iload_n 2, 1) := by decide +kernel
theorem dX12_told_42 : decode cX12_told 42 = .ok (.iadd, 1) := by decide +kernel
theorem dX12_told_43 : decode cX12_told 43 = .ok (.aload_n 0, 1) := by decide +kernel
theorem dX12_told_44 : decode cX12_told 44 = .ok (.getfield 219, 3) := by decide +kernel
theorem dX12_told_47 : decode cX12_told 47 = .ok (.iastore, 1) := by decide +kernel
theorem dX12_told_48 : decode cX12_told 48 = .ok (.iconst 1, 1) := by decide +kernel
theorem dX12_told_49 : decode cX12_told 49 = .ok (.ireturn, 1) := by decide +kernel
theorem dX12_recalled_0 : decode cX12_recalled 0 = .ok (.aload_n 0, 1) := by decide +kernel
theorem dX12_recalled_1 : decode cX12_recalled 1 = .ok (.iload_n 1, 1) := by decide +kernel
theorem dX12_recalled_2 : decode cX12_recalled 2 = .ok (.invokevirtual 432, 3) := by decide +kernel
theorem dX12_recalled_5 : decode cX12_recalled 5 = .ok (.ifCond .eq 15, 3) := by decide +kernel
theorem dX12_recalled_8 : decode cX12_recalled 8 = .ok (.iload_n 2, 1) := by decide +kernel
theorem dX12_recalled_9 : decode cX12_recalled 9 = .ok (.i2l, 1) := by decide +kernel
theorem dX12_recalled_10 : decode cX12_recalled 10 = .ok (.lconst 0, 1) := by decide +kernel
theorem dX12_recalled_11 : decode cX12_recalled 11 = .ok (.ldc2_w 438, 3) := by decide +kernel
theorem dX12_recalled_14 : decode cX12_recalled 14 = .ok (.invokestatic 203, 3) := by decide +kernel
theorem dX12_recalled_17 : decode cX12_recalled 17 = .ok (.ifCond .ne 5, 3) := by decide +kernel
theorem dX12_recalled_20 : decode cX12_recalled 20 = .ok (.iconst (-1), 1) := by decide +kernel
theorem dX12_recalled_21 : decode cX12_recalled 21 = .ok (.ireturn, 1) := by decide +kernel
theorem dX12_recalled_22 : decode cX12_recalled 22 = .ok (.iconst 0, 1) := by decide +kernel
theorem dX12_recalled_23 : decode cX12_recalled 23 = .ok (.istore_n 3, 1) := by decide +kernel
theorem dX12_recalled_24 : decode cX12_recalled 24 = .ok (.iconst 0, 1) := by decide +kernel
theorem dX12_recalled_25 : decode cX12_recalled 25 = .ok (.istore 4, 2) := by decide +kernel
theorem dX12_recalled_27 : decode cX12_recalled 27 = .ok (.iload 4, 2) := by decide +kernel
theorem dX12_recalled_29 : decode cX12_recalled 29 = .ok (.aload_n 0, 1) := by decide +kernel
theorem dX12_recalled_30 : decode cX12_recalled 30 = .ok (.getfield 211, 3) := by decide +kernel
theorem dX12_recalled_33 : decode cX12_recalled 33 = .ok (.if_icmp .ge 30, 3) := by decide +kernel
theorem dX12_recalled_36 : decode cX12_recalled 36 = .ok (.iload_n 3, 1) := by decide +kernel
theorem dX12_recalled_37 : decode cX12_recalled 37 = .ok (.aload_n 0, 1) := by decide +kernel
theorem dX12_recalled_38 : decode cX12_recalled 38 = .ok (.iload_n 1, 1) := by decide +kernel
theorem dX12_recalled_39 : decode cX12_recalled 39 = .ok (.iload 4, 2) := by decide +kernel
theorem dX12_recalled_41 : decode cX12_recalled 41 = .ok (.invokevirtual 422, 3) := by decide +kernel
theorem dX12_recalled_44 : decode cX12_recalled 44 = .ok (.ifCond .eq 10, 3) := by decide +kernel
theorem dX12_recalled_47 : decode cX12_recalled 47 = .ok (.iconst 1, 1) := by decide +kernel
theorem dX12_recalled_48 : decode cX12_recalled 48 = .ok (.iload 4, 2) := by decide +kernel
theorem dX12_recalled_50 : decode cX12_recalled 50 = .ok (.ishl, 1) := by decide +kernel
theorem dX12_recalled_51 : decode cX12_recalled 51 = .ok (.goto 4, 3) := by decide +kernel
theorem dX12_recalled_54 : decode cX12_recalled 54 = .ok (.iconst 0, 1) := by decide +kernel
theorem dX12_recalled_55 : decode cX12_recalled 55 = .ok (.ior, 1) := by decide +kernel
theorem dX12_recalled_56 : decode cX12_recalled 56 = .ok (.istore_n 3, 1) := by decide +kernel
theorem dX12_recalled_57 : decode cX12_recalled 57 = .ok (.iinc 4 1, 3) := by decide +kernel
theorem dX12_recalled_60 : decode cX12_recalled 60 = .ok (.goto (-33), 3) := by decide +kernel
theorem dX12_recalled_63 : decode cX12_recalled 63 = .ok (.iconst 0, 1) := by decide +kernel
theorem dX12_recalled_64 : decode cX12_recalled 64 = .ok (.istore 4, 2) := by decide +kernel
theorem dX12_recalled_66 : decode cX12_recalled 66 = .ok (.iconst 0, 1) := by decide +kernel
theorem dX12_recalled_67 : decode cX12_recalled 67 = .ok (.istore 5, 2) := by decide +kernel
theorem dX12_recalled_69 : decode cX12_recalled 69 = .ok (.iconst 0, 1) := by decide +kernel
theorem dX12_recalled_70 : decode cX12_recalled 70 = .ok (.istore 6, 2) := by decide +kernel
theorem dX12_recalled_72 : decode cX12_recalled 72 = .ok (.iload 6, 2) := by decide +kernel
theorem dX12_recalled_74 : decode cX12_recalled 74 = .ok (.aload_n 0, 1) := by decide +kernel
theorem dX12_recalled_75 : decode cX12_recalled 75 = .ok (.getfield 214, 3) := by decide +kernel
theorem dX12_recalled_78 : decode cX12_recalled 78 = .ok (.if_icmp .ge 85, 3) := by decide +kernel
theorem dX12_recalled_81 : decode cX12_recalled 81 = .ok (.aload_n 0, 1) := by decide +kernel
theorem dX12_recalled_82 : decode cX12_recalled 82 = .ok (.getfield 141, 3) := by decide +kernel
theorem dX12_recalled_85 : decode cX12_recalled 85 = .ok (.bipush 10, 2) := by decide +kernel
theorem dX12_recalled_87 : decode cX12_recalled 87 = .ok (.iload_n 1, 1) := by decide +kernel
theorem dX12_recalled_88 : decode cX12_recalled 88 = .ok (.imul, 1) := by decide +kernel
theorem dX12_recalled_89 : decode cX12_recalled 89 = .ok (.iload 6, 2) := by decide +kernel
theorem dX12_recalled_91 : decode cX12_recalled 91 = .ok (.iadd, 1) := by decide +kernel
theorem dX12_recalled_92 : decode cX12_recalled 92 = .ok (.iaload, 1) := by decide +kernel
theorem dX12_recalled_93 : decode cX12_recalled 93 = .ok (.istore 7, 2) := by decide +kernel
theorem dX12_recalled_95 : decode cX12_recalled 95 = .ok (.iload 4, 2) := by decide +kernel
theorem dX12_recalled_97 : decode cX12_recalled 97 = .ok (.aload_n 0, 1) := by decide +kernel
theorem dX12_recalled_98 : decode cX12_recalled 98 = .ok (.getfield 138, 3) := by decide +kernel
theorem dX12_recalled_101 : decode cX12_recalled 101 = .ok (.iload_n 1, 1) := by decide +kernel
theorem dX12_recalled_102 : decode cX12_recalled 102 = .ok (.iaload, 1) := by decide +kernel
theorem dX12_recalled_103 : decode cX12_recalled 103 = .ok (.iload 6, 2) := by decide +kernel
theorem dX12_recalled_105 : decode cX12_recalled 105 = .ok (.invokestatic 440, 3) := by decide +kernel
theorem dX12_recalled_108 : decode cX12_recalled 108 = .ok (.ifCond .eq 26, 3) := by decide +kernel
theorem dX12_recalled_111 : decode cX12_recalled 111 = .ok (.iload 7, 2) := by decide +kernel
theorem dX12_recalled_113 : decode cX12_recalled 113 = .ok (.iconst (-1), 1) := by decide +kernel
theorem dX12_recalled_114 : decode cX12_recalled 114 = .ok (.if_icmp .eq 20, 3) := by decide +kernel
theorem dX12_recalled_117 : decode cX12_recalled 117 = .ok (.iload 7, 2) := by decide +kernel
theorem dX12_recalled_119 : decode cX12_recalled 119 = .ok (.aload_n 0, 1) := by decide +kernel
theorem dX12_recalled_120 : decode cX12_recalled 120 = .ok (.getfield 135, 3) := by decide +kernel
theorem dX12_recalled_123 : decode cX12_recalled 123 = .ok (.iload_n 1, 1) := by decide +kernel
theorem dX12_recalled_124 : decode cX12_recalled 124 = .ok (.iaload, 1) := by decide +kernel
theorem dX12_recalled_125 : decode cX12_recalled 125 = .ok (.iconst 1, 1) := by decide +kernel
theorem dX12_recalled_126 : decode cX12_recalled 126 = .ok (.iadd, 1) := by decide +kernel
theorem dX12_recalled_127 : decode cX12_recalled 127 = .ok (.if_icmp .gt 7, 3) := by decide +kernel
theorem dX12_recalled_130 : decode cX12_recalled 130 = .ok (.iconst 1, 1) := by decide +kernel
theorem dX12_recalled_131 : decode cX12_recalled 131 = .ok (.goto 4, 3) := by decide +kernel
theorem dX12_recalled_134 : decode cX12_recalled 134 = .ok (.iconst 0, 1) := by decide +kernel
theorem dX12_recalled_135 : decode cX12_recalled 135 = .ok (.iadd, 1) := by decide +kernel
theorem dX12_recalled_136 : decode cX12_recalled 136 = .ok (.istore 4, 2) := by decide +kernel
theorem dX12_recalled_138 : decode cX12_recalled 138 = .ok (.iload 5, 2) := by decide +kernel
theorem dX12_recalled_140 : decode cX12_recalled 140 = .ok (.iload 7, 2) := by decide +kernel
theorem dX12_recalled_142 : decode cX12_recalled 142 = .ok (.iconst (-1), 1) := by decide +kernel
theorem dX12_recalled_143 : decode cX12_recalled 143 = .ok (.if_icmp .ne 10, 3) := by decide +kernel
theorem dX12_recalled_146 : decode cX12_recalled 146 = .ok (.iconst 1, 1) := by decide +kernel
theorem dX12_recalled_147 : decode cX12_recalled 147 = .ok (.iload 6, 2) := by decide +kernel
theorem dX12_recalled_149 : decode cX12_recalled 149 = .ok (.ishl, 1) := by decide +kernel
theorem dX12_recalled_150 : decode cX12_recalled 150 = .ok (.goto 4, 3) := by decide +kernel
theorem dX12_recalled_153 : decode cX12_recalled 153 = .ok (.iconst 0, 1) := by decide +kernel
theorem dX12_recalled_154 : decode cX12_recalled 154 = .ok (.ior, 1) := by decide +kernel
theorem dX12_recalled_155 : decode cX12_recalled 155 = .ok (.istore 5, 2) := by decide +kernel
theorem dX12_recalled_157 : decode cX12_recalled 157 = .ok (.iinc 6 1, 3) := by decide +kernel
theorem dX12_recalled_160 : decode cX12_recalled 160 = .ok (.goto (-88), 3) := by decide +kernel
theorem dX12_recalled_163 : decode cX12_recalled 163 = .ok (.iload_n 2, 1) := by decide +kernel
theorem dX12_recalled_164 : decode cX12_recalled 164 = .ok (.ifCond .ne 7, 3) := by decide +kernel
theorem dX12_recalled_167 : decode cX12_recalled 167 = .ok (.iload_n 3, 1) := by decide +kernel
theorem dX12_recalled_168 : decode cX12_recalled 168 = .ok (.goto 35, 3) := by decide +kernel
theorem dX12_recalled_171 : decode cX12_recalled 171 = .ok (.iload_n 2, 1) := by decide +kernel
theorem dX12_recalled_172 : decode cX12_recalled 172 = .ok (.iconst 1, 1) := by decide +kernel
theorem dX12_recalled_173 : decode cX12_recalled 173 = .ok (.if_icmp .ne 12, 3) := by decide +kernel
theorem dX12_recalled_176 : decode cX12_recalled 176 = .ok (.aload_n 0, 1) := by decide +kernel
theorem dX12_recalled_177 : decode cX12_recalled 177 = .ok (.getfield 138, 3) := by decide +kernel
theorem dX12_recalled_180 : decode cX12_recalled 180 = .ok (.iload_n 1, 1) := by decide +kernel
theorem dX12_recalled_181 : decode cX12_recalled 181 = .ok (.iaload, 1) := by decide +kernel
theorem dX12_recalled_182 : decode cX12_recalled 182 = .ok (.goto 21, 3) := by decide +kernel
theorem dX12_recalled_185 : decode cX12_recalled 185 = .ok (.iload_n 2, 1) := by decide +kernel
theorem dX12_recalled_186 : decode cX12_recalled 186 = .ok (.iconst 2, 1) := by decide +kernel
theorem dX12_recalled_187 : decode cX12_recalled 187 = .ok (.if_icmp .ne 8, 3) := by decide +kernel
theorem dX12_recalled_190 : decode cX12_recalled 190 = .ok (.iload 4, 2) := by decide +kernel
theorem dX12_recalled_192 : decode cX12_recalled 192 = .ok (.goto 11, 3) := by decide +kernel
theorem dX12_recalled_195 : decode cX12_recalled 195 = .ok (.aload_n 0, 1) := by decide +kernel
theorem dX12_recalled_196 : decode cX12_recalled 196 = .ok (.iload_n 1, 1) := by decide +kernel
theorem dX12_recalled_197 : decode cX12_recalled 197 = .ok (.invokevirtual 429, 3) := by decide +kernel
theorem dX12_recalled_200 : decode cX12_recalled 200 = .ok (.iload 5, 2) := by decide +kernel
theorem dX12_recalled_202 : decode cX12_recalled 202 = .ok (.iand, 1) := by decide +kernel
theorem dX12_recalled_203 : decode cX12_recalled 203 = .ok (.ireturn, 1) := by decide +kernel
theorem dX12_gift_0 : decode cX12_gift 0 = .ok (.aload_n 0, 1) := by decide +kernel
theorem dX12_gift_1 : decode cX12_gift 1 = .ok (.getfield 426, 3) := by decide +kernel
theorem dX12_gift_4 : decode cX12_gift 4 = .ok (.bipush 20, 2) := by decide +kernel
theorem dX12_gift_6 : decode cX12_gift 6 = .ok (.if_icmp .eq 23, 3) := by decide +kernel
theorem dX12_gift_9 : decode cX12_gift 9 = .ok (.aload_n 0, 1) := by decide +kernel
theorem dX12_gift_10 : decode cX12_gift 10 = .ok (.iload_n 1, 1) := by decide +kernel
theorem dX12_gift_11 : decode cX12_gift 11 = .ok (.invokevirtual 443, 3) := by decide +kernel
theorem dX12_gift_14 : decode cX12_gift 14 = .ok (.ifCond .eq 15, 3) := by decide +kernel
theorem dX12_gift_17 : decode cX12_gift 17 = .ok (.iload_n 2, 1) := by decide +kernel
theorem dX12_gift_18 : decode cX12_gift 18 = .ok (.i2l, 1) := by decide +kernel
theorem dX12_gift_19 : decode cX12_gift 19 = .ok (.lconst 0, 1) := by decide +kernel
theorem dX12_gift_20 : decode cX12_gift 20 = .ok (.ldc2_w 438, 3) := by decide +kernel
theorem dX12_gift_23 : decode cX12_gift 23 = .ok (.invokestatic 203, 3) := by decide +kernel
theorem dX12_gift_26 : decode cX12_gift 26 = .ok (.ifCond .ne 5, 3) := by decide +kernel
theorem dX12_gift_29 : decode cX12_gift 29 = .ok (.iconst 0, 1) := by decide +kernel
theorem dX12_gift_30 : decode cX12_gift 30 = .ok (.ireturn, 1) := by decide +kernel
theorem dX12_gift_31 : decode cX12_gift 31 = .ok (.iload_n 2, 1) := by decide +kernel
theorem dX12_gift_32 : decode cX12_gift 32 = .ok (.ifCond .ne 15, 3) := by decide +kernel
theorem dX12_gift_35 : decode cX12_gift 35 = .ok (.iload_n 3, 1) := by decide +kernel
theorem dX12_gift_36 : decode cX12_gift 36 = .ok (.i2l, 1) := by decide +kernel
theorem dX12_gift_37 : decode cX12_gift 37 = .ok (.lconst 0, 1) := by decide +kernel
theorem dX12_gift_38 : decode cX12_gift 38 = .ok (.ldc2_w 243, 3) := by decide +kernel
