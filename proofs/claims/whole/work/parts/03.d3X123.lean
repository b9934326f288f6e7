theorem dX12_next_108 : decode cX12_next 108 = .ok (.iload_n 1, 1) := by decide +kernel
theorem dX12_next_109 : decode cX12_next 109 = .ok (.iadd, 1) := by decide +kernel
theorem dX12_next_110 : decode cX12_next 110 = .ok (.iaload, 1) := by decide +kernel
theorem dX12_next_111 : decode cX12_next 111 = .ok (.aload_n 0, 1) := by decide +kernel
theorem dX12_next_112 : decode cX12_next 112 = .ok (.getfield 183, 3) := by decide +kernel
theorem dX12_next_115 : decode cX12_next 115 = .ok (.bipush 8, 2) := by decide +kernel
theorem dX12_next_117 : decode cX12_next 117 = .ok (.iload_n 3, 1) := by decide +kernel
theorem dX12_next_118 : decode cX12_next 118 = .ok (.imul, 1) := by decide +kernel
theorem dX12_next_119 : decode cX12_next 119 = .ok (.iload_n 1, 1) := by decide +kernel
theorem dX12_next_120 : decode cX12_next 120 = .ok (.iadd, 1) := by decide +kernel
theorem dX12_next_121 : decode cX12_next 121 = .ok (.iaload, 1) := by decide +kernel
theorem dX12_next_122 : decode cX12_next 122 = .ok (.if_icmp .ge 7, 3) := by decide +kernel
theorem dX12_next_125 : decode cX12_next 125 = .ok (.iconst 1, 1) := by decide +kernel
theorem dX12_next_126 : decode cX12_next 126 = .ok (.goto 4, 3) := by decide +kernel
theorem dX12_next_129 : decode cX12_next 129 = .ok (.iconst 0, 1) := by decide +kernel
theorem dX12_next_130 : decode cX12_next 130 = .ok (.istore 7, 2) := by decide +kernel
theorem dX12_next_132 : decode cX12_next 132 = .ok (.iload 7, 2) := by decide +kernel
theorem dX12_next_134 : decode cX12_next 134 = .ok (.ifCond .eq 8, 3) := by decide +kernel
theorem dX12_next_137 : decode cX12_next 137 = .ok (.iload 5, 2) := by decide +kernel
theorem dX12_next_139 : decode cX12_next 139 = .ok (.goto 4, 3) := by decide +kernel
theorem dX12_next_142 : decode cX12_next 142 = .ok (.iload_n 3, 1) := by decide +kernel
theorem dX12_next_143 : decode cX12_next 143 = .ok (.istore_n 3, 1) := by decide +kernel
theorem dX12_next_144 : decode cX12_next 144 = .ok (.iload 7, 2) := by decide +kernel
theorem dX12_next_146 : decode cX12_next 146 = .ok (.ifCond .eq 8, 3) := by decide +kernel
theorem dX12_next_149 : decode cX12_next 149 = .ok (.iload 6, 2) := by decide +kernel
theorem dX12_next_151 : decode cX12_next 151 = .ok (.goto 5, 3) := by decide +kernel
theorem dX12_next_154 : decode cX12_next 154 = .ok (.iload 4, 2) := by decide +kernel
theorem dX12_next_156 : decode cX12_next 156 = .ok (.istore 4, 2) := by decide +kernel
theorem dX12_next_158 : decode cX12_next 158 = .ok (.iinc 5 1, 3) := by decide +kernel
theorem dX12_next_161 : decode cX12_next 161 = .ok (.goto (-118), 3) := by decide +kernel
theorem dX12_next_164 : decode cX12_next 164 = .ok (.iload_n 3, 1) := by decide +kernel
theorem dX12_next_165 : decode cX12_next 165 = .ok (.iconst (-1), 1) := by decide +kernel
theorem dX12_next_166 : decode cX12_next 166 = .ok (.if_icmp .ne 9, 3) := by decide +kernel
theorem dX12_next_169 : decode cX12_next 169 = .ok (.ldc_w 519, 3) := by decide +kernel
theorem dX12_next_172 : decode cX12_next 172 = .ok (.goto 13, 3) := by decide +kernel
theorem dX12_next_175 : decode cX12_next 175 = .ok (.iload_n 2, 1) := by decide +kernel
theorem dX12_next_176 : decode cX12_next 176 = .ok (.ifCond .ne 7, 3) := by decide +kernel
theorem dX12_next_179 : decode cX12_next 179 = .ok (.iload_n 3, 1) := by decide +kernel
theorem dX12_next_180 : decode cX12_next 180 = .ok (.goto 5, 3) := by decide +kernel
theorem dX12_next_183 : decode cX12_next 183 = .ok (.iload 4, 2) := by decide +kernel
theorem dX12_next_185 : decode cX12_next 185 = .ok (.ireturn, 1) := by decide +kernel
theorem dX12_thereOf_0 : decode cX12_thereOf 0 = .ok (.iconst 0, 1) := by decide +kernel
theorem dX12_thereOf_1 : decode cX12_thereOf 1 = .ok (.istore_n 2, 1) := by decide +kernel
theorem dX12_thereOf_2 : decode cX12_thereOf 2 = .ok (.iconst 0, 1) := by decide +kernel
theorem dX12_thereOf_3 : decode cX12_thereOf 3 = .ok (.istore_n 3, 1) := by decide +kernel
theorem dX12_thereOf_4 : decode cX12_thereOf 4 = .ok (.iload_n 3, 1) := by decide +kernel
theorem dX12_thereOf_5 : decode cX12_thereOf 5 = .ok (.aload_n 0, 1) := by decide +kernel
theorem dX12_thereOf_6 : decode cX12_thereOf 6 = .ok (.getfield 211, 3) := by decide +kernel
theorem dX12_thereOf_9 : decode cX12_thereOf 9 = .ok (.if_icmp .ge 45, 3) := by decide +kernel
theorem dX12_thereOf_12 : decode cX12_thereOf 12 = .ok (.iload_n 2, 1) := by decide +kernel
theorem dX12_thereOf_13 : decode cX12_thereOf 13 = .ok (.aload_n 0, 1) := by decide +kernel
theorem dX12_thereOf_14 : decode cX12_thereOf 14 = .ok (.getfield 35, 3) := by decide +kernel
theorem dX12_thereOf_17 : decode cX12_thereOf 17 = .ok (.iload_n 3, 1) := by decide +kernel
theorem dX12_thereOf_18 : decode cX12_thereOf 18 = .ok (.iaload, 1) := by decide +kernel
theorem dX12_thereOf_19 : decode cX12_thereOf 19 = .ok (.iload_n 1, 1) := by decide +kernel
theorem dX12_thereOf_20 : decode cX12_thereOf 20 = .ok (.if_icmp .ne 25, 3) := by decide +kernel
theorem dX12_thereOf_23 : decode cX12_thereOf 23 = .ok (.aload_n 0, 1) := by decide +kernel
theorem dX12_thereOf_24 : decode cX12_thereOf 24 = .ok (.getfield 44, 3) := by decide +kernel
theorem dX12_thereOf_27 : decode cX12_thereOf 27 = .ok (.iload_n 3, 1) := by decide +kernel
theorem dX12_thereOf_28 : decode cX12_thereOf 28 = .ok (.iaload, 1) := by decide +kernel
theorem dX12_thereOf_29 : decode cX12_thereOf 29 = .ok (.iconst 2, 1) := by decide +kernel
theorem dX12_thereOf_30 : decode cX12_thereOf 30 = .ok (.if_icmp .ge 15, 3) := by decide +kernel
theorem dX12_thereOf_33 : decode cX12_thereOf 33 = .ok (.aload_n 0, 1) := by decide +kernel
theorem dX12_thereOf_34 : decode cX12_thereOf 34 = .ok (.iload_n 3, 1) := by decide +kernel
theorem dX12_thereOf_35 : decode cX12_thereOf 35 = .ok (.invokevirtual 452, 3) := by decide +kernel
theorem dX12_thereOf_38 : decode cX12_thereOf 38 = .ok (.ifCond .ne 7, 3) := by decide +kernel
theorem dX12_thereOf_41 : decode cX12_thereOf 41 = .ok (.iconst 1, 1) := by decide +kernel
theorem dX12_thereOf_42 : decode cX12_thereOf 42 = .ok (.goto 4, 3) := by decide +kernel
theorem dX12_thereOf_45 : decode cX12_thereOf 45 = .ok (.iconst 0, 1) := by decide +kernel
theorem dX12_thereOf_46 : decode cX12_thereOf 46 = .ok (.iadd, 1) := by decide +kernel
theorem dX12_thereOf_47 : decode cX12_thereOf 47 = .ok (.istore_n 2, 1) := by decide +kernel
theorem dX12_thereOf_48 : decode cX12_thereOf 48 = .ok (.iinc 3 1, 3) := by decide +kernel
theorem dX12_thereOf_51 : decode cX12_thereOf 51 = .ok (.goto (-47), 3) := by decide +kernel
theorem dX12_thereOf_54 : decode cX12_thereOf 54 = .ok (.iload_n 2, 1) := by decide +kernel
theorem dX12_thereOf_55 : decode cX12_thereOf 55 = .ok (.ireturn, 1) := by decide +kernel
theorem dX12_servedOf_0 : decode cX12_servedOf 0 = .ok (.aload_n 0, 1) := by decide +kernel
theorem dX12_servedOf_1 : decode cX12_servedOf 1 = .ok (.iload_n 1, 1) := by decide +kernel
theorem dX12_servedOf_2 : decode cX12_servedOf 2 = .ok (.invokevirtual 523, 3) := by decide +kernel
theorem dX12_servedOf_5 : decode cX12_servedOf 5 = .ok (.iload_n 2, 1) := by decide +kernel
theorem dX12_servedOf_6 : decode cX12_servedOf 6 = .ok (.iadd, 1) := by decide +kernel
theorem dX12_servedOf_7 : decode cX12_servedOf 7 = .ok (.iload_n 3, 1) := by decide +kernel
theorem dX12_servedOf_8 : decode cX12_servedOf 8 = .ok (.imul, 1) := by decide +kernel
theorem dX12_servedOf_9 : decode cX12_servedOf 9 = .ok (.iconst 3, 1) := by decide +kernel
theorem dX12_servedOf_10 : decode cX12_servedOf 10 = .ok (.idiv, 1) := by decide +kernel
theorem dX12_servedOf_11 : decode cX12_servedOf 11 = .ok (.istore 4, 2) := by decide +kernel
theorem dX12_servedOf_13 : decode cX12_servedOf 13 = .ok (.aload_n 0, 1) := by decide +kernel
theorem dX12_servedOf_14 : decode cX12_servedOf 14 = .ok (.iload_n 1, 1) := by decide +kernel
theorem dX12_servedOf_15 : decode cX12_servedOf 15 = .ok (.invokevirtual 400, 3) := by decide +kernel
theorem dX12_servedOf_18 : decode cX12_servedOf 18 = .ok (.istore 5, 2) := by decide +kernel
theorem dX12_servedOf_20 : decode cX12_servedOf 20 = .ok (.iload 4, 2) := by decide +kernel
theorem dX12_servedOf_22 : decode cX12_servedOf 22 = .ok (.iload 5, 2) := by decide +kernel
theorem dX12_servedOf_24 : decode cX12_servedOf 24 = .ok (.if_icmp .ge 8, 3) := by decide +kernel
theorem dX12_servedOf_27 : decode cX12_servedOf 27 = .ok (.iload 4, 2) := by decide +kernel
theorem dX12_servedOf_29 : decode cX12_servedOf 29 = .ok (.goto 5, 3) := by decide +kernel
theorem dX12_servedOf_32 : decode cX12_servedOf 32 = .ok (.iload 5, 2) := by decide +kernel
theorem dX12_servedOf_34 : decode cX12_servedOf 34 = .ok (.ireturn, 1) := by decide +kernel
theorem dX12_buying_0 : decode cX12_buying 0 = .ok (.iload_n 1, 1) := by decide +kernel
theorem dX12_buying_1 : decode cX12_buying 1 = .ok (.i2l, 1) := by decide +kernel
theorem dX12_buying_2 : decode cX12_buying 2 = .ok (.lconst 0, 1) := by decide +kernel
theorem dX12_buying_3 : decode cX12_buying 3 = .ok (.ldc2_w 526, 3) := by decide +kernel
theorem dX12_buying_6 : decode cX12_buying 6 = .ok (.invokestatic 203, 3) := by decide +kernel
theorem dX12_buying_9 : decode cX12_buying 9 = .ok (.ifCond .eq 34, 3) := by decide +kernel
theorem dX12_buying_12 : decode cX12_buying 12 = .ok (.iload_n 2, 1) := by decide +kernel
theorem dX12_buying_13 : decode cX12_buying 13 = .ok (.i2l, 1) := by decide +kernel
theorem dX12_buying_14 : decode cX12_buying 14 = .ok (.lconst 1, 1) := by decide +kernel
theorem dX12_buying_15 : decode cX12_buying 15 = .ok (.ldc2_w 241, 3) := by decide +kernel
theorem dX12_buying_18 : decode cX12_buying 18 = .ok (.invokestatic 203, 3) := by decide +kernel
theorem dX12_buying_21 : decode cX12_buying 21 = .ok (.ifCond .eq 22, 3) := by decide +kernel
theorem dX12_buying_24 : decode cX12_buying 24 = .ok (.iload_n 3, 1) := by decide +kernel
theorem dX12_buying_25 : decode cX12_buying 25 = .ok (.iconst (-1), 1) := by decide +kernel
theorem dX12_buying_26 : decode cX12_buying 26 = .ok (.if_icmp .eq 19, 3) := by decide +kernel
theorem dX12_buying_29 : decode cX12_buying 29 = .ok (.iload_n 3, 1) := by decide +kernel
theorem dX12_buying_30 : decode cX12_buying 30 = .ok (.bipush 8, 2) := by decide +kernel
theorem dX12_buying_32 : decode cX12_buying 32 = .ok (.if_icmp .eq 13, 3) := by decide +kernel
theorem dX12_buying_35 : decode cX12_buying 35 = .ok (.aload_n 0, 1) := by decide +kernel
theorem dX12_buying_36 : decode cX12_buying 36 = .ok (.iload_n 3, 1) := by decide +kernel
theorem dX12_buying_37 : decode cX12_buying 37 = .ok (.invokevirtual 230, 3) := by decide +kernel
theorem dX12_buying_40 : decode cX12_buying 40 = .ok (.ifCond .ne 5, 3) := by decide +kernel
theorem dX12_buying_43 : decode cX12_buying 43 = .ok (.iconst (-1), 1) := by decide +kernel
theorem dX12_buying_44 : decode cX12_buying 44 = .ok (.ireturn, 1) := by decide +kernel
theorem dX12_buying_45 : decode cX12_buying 45 = .ok (.iconst 0, 1) := by decide +kernel
theorem dX12_buying_46 : decode cX12_buying 46 = .ok (.istore 4, 2) := by decide +kernel
theorem dX12_buying_48 : decode cX12_buying 48 = .ok (.iload 4, 2) := by decide +kernel
theorem dX12_buying_50 : decode cX12_buying 50 = .ok (.aload_n 0, 1) := by decide +kernel
theorem dX12_buying_51 : decode cX12_buying 51 = .ok (.getfield 207, 3) := by decide +kernel
theorem dX12_buying_54 : decode cX12_buying 54 = .ok (.if_icmp .ge 45, 3) := by decide +kernel
theorem dX12_buying_57 : decode cX12_buying 57 = .ok (.iconst 0, 1) := by decide +kernel
theorem dX12_buying_58 : decode cX12_buying 58 = .ok (.istore 5, 2) := by decide +kernel
theorem dX12_buying_60 : decode cX12_buying 60 = .ok (.iload 5, 2) := by decide +kernel
theorem dX12_buying_62 : decode cX12_buying 62 = .ok (.iconst 4, 1) := by decide +kernel
theorem dX12_buying_63 : decode cX12_buying 63 = .ok (.if_icmp .ge 30, 3) := by decide +kernel
theorem dX12_buying_66 : decode cX12_buying 66 = .ok (.aload_n 0, 1) := by decide +kernel
theorem dX12_buying_67 : decode cX12_buying 67 = .ok (.getfield 189, 3) := by decide +kernel
theorem dX12_buying_70 : decode cX12_buying 70 = .ok (.iconst 4, 1) := by decide +kernel
theorem dX12_buying_71 : decode cX12_buying 71 = .ok (.iload 4, 2) := by decide +kernel
theorem dX12_buying_73 : decode cX12_buying 73 = .ok (.imul, 1) := by decide +kernel
theorem dX12_buying_74 : decode cX12_buying 74 = .ok (.iload 5, 2) := by decide +kernel
theorem dX12_buying_76 : decode cX12_buying 76 = .ok (.iadd, 1) := by decide +kernel
theorem dX12_buying_77 : decode cX12_buying 77 = .ok (.aload_n 0, 1) := by decide +kernel
theorem dX12_buying_78 : decode cX12_buying 78 = .ok (.iload 4, 2) := by decide +kernel
theorem dX12_buying_80 : decode cX12_buying 80 = .ok (.iload 5, 2) := by decide +kernel
theorem dX12_buying_82 : decode cX12_buying 82 = .ok (.iload_n 2, 1) := by decide +kernel
theorem dX12_buying_83 : decode cX12_buying 83 = .ok (.invokevirtual 528, 3) := by decide +kernel
theorem dX12_buying_86 : decode cX12_buying 86 = .ok (.iastore, 1) := by decide +kernel
theorem dX12_buying_87 : decode cX12_buying 87 = .ok (.iinc 5 1, 3) := by decide +kernel
theorem dX12_buying_90 : decode cX12_buying 90 = .ok (.goto (-30), 3) := by decide +kernel
theorem dX12_buying_93 : decode cX12_buying 93 = .ok (.iinc 4 1, 3) := by decide +kernel
theorem dX12_buying_96 : decode cX12_buying 96 = .ok (.goto (-48), 3) := by decide +kernel
theorem dX12_buying_99 : decode cX12_buying 99 = .ok (.iconst 0, 1) := by decide +kernel
theorem dX12_buying_100 : decode cX12_buying 100 = .ok (.istore 4, 2) := by decide +kernel
theorem dX12_buying_102 : decode cX12_buying 102 = .ok (.iconst (-1), 1) := by decide +kernel
theorem dX12_buying_103 : decode cX12_buying 103 = .ok (.istore 5, 2) := by decide +kernel
theorem dX12_buying_105 : decode cX12_buying 105 = .ok (.iconst 0, 1) := by decide +kernel
theorem dX12_buying_106 : decode cX12_buying 106 = .ok (.istore 6, 2) := by decide +kernel
theorem dX12_buying_108 : decode cX12_buying 108 = .ok (.iconst 0, 1) := by decide +kernel
theorem dX12_buying_109 : decode cX12_buying 109 = .ok (.istore 7, 2) := by decide +kernel
theorem dX12_buying_111 : decode cX12_buying 111 = .ok (.iconst 0, 1) := by decide +kernel
theorem dX12_buying_112 : decode cX12_buying 112 = .ok (.istore 8, 2) := by decide +kernel
theorem dX12_buying_114 : decode cX12_buying 114 = .ok (.iload 8, 2) := by decide +kernel
theorem dX12_buying_116 : decode cX12_buying 116 = .ok (.iconst 1, 1) := by decide +kernel
theorem dX12_buying_117 : decode cX12_buying 117 = .ok (.iconst 2, 1) := by decide +kernel
theorem dX12_buying_118 : decode cX12_buying 118 = .ok (.aload_n 0, 1) := by decide +kernel
theorem dX12_buying_119 : decode cX12_buying 119 = .ok (.getfield 207, 3) := by decide +kernel
theorem dX12_buying_122 : decode cX12_buying 122 = .ok (.imul, 1) := by decide +kernel
theorem dX12_buying_123 : decode cX12_buying 123 = .ok (.ishl, 1) := by decide +kernel
theorem dX12_buying_124 : decode cX12_buying 124 = .ok (.if_icmp .ge 139, 3) := by decide +kernel
theorem dX12_buying_127 : decode cX12_buying 127 = .ok (.iconst 0, 1) := by decide +kernel
theorem dX12_buying_128 : decode cX12_buying 128 = .ok (.istore 9, 2) := by decide +kernel
theorem dX12_buying_130 : decode cX12_buying 130 = .ok (.iconst 0, 1) := by decide +kernel
theorem dX12_buying_131 : decode cX12_buying 131 = .ok (.istore 10, 2) := by decide +kernel
theorem dX12_buying_133 : decode cX12_buying 133 = .ok (.iconst 0, 1) := by decide +kernel
theorem dX12_buying_134 : decode cX12_buying 134 = .ok (.istore 11, 2) := by decide +kernel
theorem dX12_buying_136 : decode cX12_buying 136 = .ok (.iload 11, 2) := by decide +kernel
theorem dX12_buying_138 : decode cX12_buying 138 = .ok (.aload_n 0, 1) := by decide +kernel
theorem dX12_buying_139 : decode cX12_buying 139 = .ok (.getfield 207, 3) := by decide +kernel
theorem dX12_buying_142 : decode cX12_buying 142 = .ok (.if_icmp .ge 59, 3) := by decide +kernel
theorem dX12_buying_145 : decode cX12_buying 145 = .ok (.iload 8, 2) := by decide +kernel
theorem dX12_buying_147 : decode cX12_buying 147 = .ok (.iconst 2, 1) := by decide +kernel
theorem dX12_buying_148 : decode cX12_buying 148 = .ok (.aload_n 0, 1) := by decide +kernel
theorem dX12_buying_149 : decode cX12_buying 149 = .ok (.getfield 207, 3) := by decide +kernel
theorem dX12_buying_152 : decode cX12_buying 152 = .ok (.iconst 1, 1) := by decide +kernel
theorem dX12_buying_153 : decode cX12_buying 153 = .ok (.isub, 1) := by decide +kernel
theorem dX12_buying_154 : decode cX12_buying 154 = .ok (.iload 11, 2) := by decide +kernel
theorem dX12_buying_156 : decode cX12_buying 156 = .ok (.isub, 1) := by decide +kernel
theorem dX12_buying_157 : decode cX12_buying 157 = .ok (.imul, 1) := by decide +kernel
theorem dX12_buying_158 : decode cX12_buying 158 = .ok (.ishr, 1) := by decide +kernel
theorem dX12_buying_159 : decode cX12_buying 159 = .ok (.iconst 3, 1) := by decide +kernel
theorem dX12_buying_160 : decode cX12_buying 160 = .ok (.iand, 1) := by decide +kernel
theorem dX12_buying_161 : decode cX12_buying 161 = .ok (.istore 12, 2) := by decide +kernel
theorem dX12_buying_163 : decode cX12_buying 163 = .ok (.iload 9, 2) := by decide +kernel
theorem dX12_buying_165 : decode cX12_buying 165 = .ok (.aload_n 0, 1) := by decide +kernel
theorem dX12_buying_166 : decode cX12_buying 166 = .ok (.getfield 189, 3) := by decide +kernel
theorem dX12_buying_169 : decode cX12_buying 169 = .ok (.iconst 4, 1) := by decide +kernel
theorem dX12_buying_170 : decode cX12_buying 170 = .ok (.iload 11, 2) := by decide +kernel
theorem dX12_buying_172 : decode cX12_buying 172 = .ok (.imul, 1) := by decide +kernel
theorem dX12_buying_173 : decode cX12_buying 173 = .ok (.iload 12, 2) := by decide +kernel
theorem dX12_buying_175 : decode cX12_buying 175 = .ok (.iadd, 1) := by decide +kernel
theorem dX12_buying_176 : decode cX12_buying 176 = .ok (.iaload, 1) := by decide +kernel
theorem dX12_buying_177 : decode cX12_buying 177 = .ok (.iadd, 1) := by decide +kernel
theorem dX12_buying_178 : decode cX12_buying 178 = .ok (.istore 9, 2) := by decide +kernel
theorem dX12_buying_180 : decode cX12_buying 180 = .ok (.iload 10, 2) := by decide +kernel
theorem dX12_buying_182 : decode cX12_buying 182 = .ok (.iload 12, 2) := by decide +kernel
theorem dX12_buying_184 : decode cX12_buying 184 = .ok (.aload_n 0, 1) := by decide +kernel
theorem dX12_buying_185 : decode cX12_buying 185 = .ok (.getfield 17, 3) := by decide +kernel
theorem dX12_buying_188 : decode cX12_buying 188 = .ok (.iload 11, 2) := by decide +kernel
theorem dX12_buying_190 : decode cX12_buying 190 = .ok (.iaload, 1) := by decide +kernel
theorem dX12_buying_191 : decode cX12_buying 191 = .ok (.imul, 1) := by decide +kernel
theorem dX12_buying_192 : decode cX12_buying 192 = .ok (.iadd, 1) := by decide +kernel
theorem dX12_buying_193 : decode cX12_buying 193 = .ok (.istore 10, 2) := by decide +kernel
theorem dX12_buying_195 : decode cX12_buying 195 = .ok (.iinc 11 1, 3) := by decide +kernel
theorem dX12_buying_198 : decode cX12_buying 198 = .ok (.goto (-62), 3) := by decide +kernel
theorem dX12_buying_201 : decode cX12_buying 201 = .ok (.iload 8, 2) := by decide +kernel
theorem dX12_buying_203 : decode cX12_buying 203 = .ok (.ifCond .ne 8, 3) := by decide +kernel
theorem dX12_buying_206 : decode cX12_buying 206 = .ok (.iload 9, 2) := by decide +kernel
theorem dX12_buying_208 : decode cX12_buying 208 = .ok (.goto 5, 3) := by decide +kernel
theorem dX12_buying_211 : decode cX12_buying 211 = .ok (.iload 7, 2) := by decide +kernel
theorem dX12_buying_213 : decode cX12_buying 213 = .ok (.istore 7, 2) := by decide +kernel
theorem dX12_buying_215 : decode cX12_buying 215 = .ok (.iload 10, 2) := by decide +kernel
theorem dX12_buying_217 : decode cX12_buying 217 = .ok (.iload_n 1, 1) := by decide +kernel
theorem dX12_buying_218 : decode cX12_buying 218 = .ok (.if_icmp .gt 39, 3) := by decide +kernel
theorem dX12_buying_221 : decode cX12_buying 221 = .ok (.iload 9, 2) := by decide +kernel
theorem dX12_buying_223 : decode cX12_buying 223 = .ok (.iload 5, 2) := by decide +kernel
theorem dX12_buying_225 : decode cX12_buying 225 = .ok (.if_icmp .lt 32, 3) := by decide +kernel
theorem dX12_buying_228 : decode cX12_buying 228 = .ok (.iload 9, 2) := by decide +kernel
theorem dX12_buying_230 : decode cX12_buying 230 = .ok (.iload 5, 2) := by decide +kernel
theorem dX12_buying_232 : decode cX12_buying 232 = .ok (.if_icmp .ne 13, 3) := by decide +kernel
theorem dX12_buying_235 : decode cX12_buying 235 = .ok (.iload 10, 2) := by decide +kernel
theorem dX12_buying_237 : decode cX12_buying 237 = .ok (.iload 6, 2) := by decide +kernel
theorem dX12_buying_239 : decode cX12_buying 239 = .ok (.if_icmp .lt 6, 3) := by decide +kernel
theorem dX12_buying_242 : decode cX12_buying 242 = .ok (.goto 15, 3) := by decide +kernel
theorem dX12_buying_245 : decode cX12_buying 245 = .ok (.iload 8, 2) := by decide +kernel
theorem dX12_buying_247 : decode cX12_buying 247 = .ok (.istore 4, 2) := by decide +kernel
theorem dX12_buying_249 : decode cX12_buying 249 = .ok (.iload 9, 2) := by decide +kernel
theorem dX12_buying_251 : decode cX12_buying 251 = .ok (.istore 5, 2) := by decide +kernel
theorem dX12_buying_253 : decode cX12_buying 253 = .ok (.iload 10, 2) := by decide +kernel
theorem dX12_buying_255 : decode cX12_buying 255 = .ok (.istore 6, 2) := by decide +kernel
theorem dX12_buying_257 : decode cX12_buying 257 = .ok (.iinc 8 1, 3) := by decide +kernel
theorem dX12_buying_260 : decode cX12_buying 260 = .ok (.goto (-146), 3) := by decide +kernel
theorem dX12_buying_263 : decode cX12_buying 263 = .ok (.iload_n 3, 1) := by decide +kernel
theorem dX12_buying_264 : decode cX12_buying 264 = .ok (.iconst (-1), 1) := by decide +kernel
theorem dX12_buying_265 : decode cX12_buying 265 = .ok (.if_icmp .ne 11, 3) := by decide +kernel
theorem dX12_buying_268 : decode cX12_buying 268 = .ok (.iload 5, 2) := by decide +kernel
theorem dX12_buying_270 : decode cX12_buying 270 = .ok (.iload 7, 2) := by decide +kernel
theorem dX12_buying_272 : decode cX12_buying 272 = .ok (.isub, 1) := by decide +kernel
theorem dX12_buying_273 : decode cX12_buying 273 = .ok (.goto 29, 3) := by decide +kernel
theorem dX12_buying_276 : decode cX12_buying 276 = .ok (.iload_n 3, 1) := by decide +kernel
theorem dX12_buying_277 : decode cX12_buying 277 = .ok (.bipush 8, 2) := by decide +kernel
theorem dX12_buying_279 : decode cX12_buying 279 = .ok (.if_icmp .ne 8, 3) := by decide +kernel
theorem dX12_buying_282 : decode cX12_buying 282 = .ok (.iload 6, 2) := by decide +kernel
theorem dX12_buying_284 : decode cX12_buying 284 = .ok (.goto 18, 3) := by decide +kernel
theorem dX12_buying_287 : decode cX12_buying 287 = .ok (.iload 4, 2) := by decide +kernel
theorem dX12_buying_289 : decode cX12_buying 289 = .ok (.iconst 2, 1) := by decide +kernel
theorem dX12_buying_290 : decode cX12_buying 290 = .ok (.aload_n 0, 1) := by decide +kernel
theorem dX12_buying_291 : decode cX12_buying 291 = .ok (.getfield 207, 3) := by decide +kernel
theorem dX12_buying_294 : decode cX12_buying 294 = .ok (.iconst 1, 1) := by decide +kernel
theorem dX12_buying_295 : decode cX12_buying 295 = .ok (.isub, 1) := by decide +kernel
theorem dX12_buying_296 : decode cX12_buying 296 = .ok (.iload_n 3, 1) := by decide +kernel
theorem dX12_buying_297 : decode cX12_buying 297 = .ok (.isub, 1) := by decide +kernel
theorem dX12_buying_298 : decode cX12_buying 298 = .ok (.imul, 1) := by decide +kernel
theorem dX12_buying_299 : decode cX12_buying 299 = .ok (.ishr, 1) := by decide +kernel
theorem dX12_buying_300 : decode cX12_buying 300 = .ok (.iconst 3, 1) := by decide +kernel
theorem dX12_buying_301 : decode cX12_buying 301 = .ok (.iand, 1) := by decide +kernel
theorem dX12_buying_302 : decode cX12_buying 302 = .ok (.ireturn, 1) := by decide +kernel
theorem dX12_pairsOf_0 : decode cX12_pairsOf 0 = .ok (.iload_n 1, 1) := by decide +kernel
theorem dX12_pairsOf_1 : decode cX12_pairsOf 1 = .ok (.invokestatic 531, 3) := by decide +kernel
theorem dX12_pairsOf_4 : decode cX12_pairsOf 4 = .ok (.istore_n 3, 1) := by decide +kernel
theorem dX12_pairsOf_5 : decode cX12_pairsOf 5 = .ok (.iconst 0, 1) := by decide +kernel
theorem dX12_pairsOf_6 : decode cX12_pairsOf 6 = .ok (.istore 4, 2) := by decide +kernel
theorem dX12_pairsOf_8 : decode cX12_pairsOf 8 = .ok (.iload 4, 2) := by decide +kernel
theorem dX12_pairsOf_10 : decode cX12_pairsOf 10 = .ok (.iconst 1, 1) := by decide +kernel
theorem dX12_pairsOf_11 : decode cX12_pairsOf 11 = .ok (.iload_n 3, 1) := by decide +kernel
theorem dX12_pairsOf_12 : decode cX12_pairsOf 12 = .ok (.ishl, 1) := by decide +kernel
theorem dX12_pairsOf_13 : decode cX12_pairsOf 13 = .ok (.if_icmp .ge 26, 3) := by decide +kernel
theorem dX12_pairsOf_16 : decode cX12_pairsOf 16 = .ok (.aload_n 0, 1) := by decide +kernel
theorem dX12_pairsOf_17 : decode cX12_pairsOf 17 = .ok (.getfield 192, 3) := by decide +kernel
theorem dX12_pairsOf_20 : decode cX12_pairsOf 20 = .ok (.iload 4, 2) := by decide +kernel
theorem dX12_pairsOf_22 : decode cX12_pairsOf 22 = .ok (.iload 4, 2) := by decide +kernel
theorem dX12_pairsOf_24 : decode cX12_pairsOf 24 = .ok (.ifCond .ne 7, 3) := by decide +kernel
theorem dX12_pairsOf_27 : decode cX12_pairsOf 27 = .ok (.iconst 1, 1) := by decide +kernel
theorem dX12_pairsOf_28 : decode cX12_pairsOf 28 = .ok (.goto 4, 3) := by decide +kernel
theorem dX12_pairsOf_31 : decode cX12_pairsOf 31 = .ok (.iconst 0, 1) := by decide +kernel
theorem dX12_pairsOf_32 : decode cX12_pairsOf 32 = .ok (.bastore, 1) := by decide +kernel
theorem dX12_pairsOf_33 : decode cX12_pairsOf 33 = .ok (.iinc 4 1, 3) := by decide +kernel
theorem dX12_pairsOf_36 : decode cX12_pairsOf 36 = .ok (.goto (-28), 3) := by decide +kernel
theorem dX12_pairsOf_39 : decode cX12_pairsOf 39 = .ok (.iconst 0, 1) := by decide +kernel
theorem dX12_pairsOf_40 : decode cX12_pairsOf 40 = .ok (.istore 4, 2) := by decide +kernel
theorem dX12_pairsOf_42 : decode cX12_pairsOf 42 = .ok (.iload 4, 2) := by decide +kernel
theorem dX12_pairsOf_44 : decode cX12_pairsOf 44 = .ok (.aload_n 0, 1) := by decide +kernel
theorem dX12_pairsOf_45 : decode cX12_pairsOf 45 = .ok (.getfield 214, 3) := by decide +kernel
theorem dX12_pairsOf_48 : decode cX12_pairsOf 48 = .ok (.if_icmp .ge 128, 3) := by decide +kernel
theorem dX12_pairsOf_51 : decode cX12_pairsOf 51 = .ok (.aload_n 0, 1) := by decide +kernel
theorem dX12_pairsOf_52 : decode cX12_pairsOf 52 = .ok (.getfield 75, 3) := by decide +kernel
theorem dX12_pairsOf_55 : decode cX12_pairsOf 55 = .ok (.iload 4, 2) := by decide +kernel
theorem dX12_pairsOf_57 : decode cX12_pairsOf 57 = .ok (.iaload, 1) := by decide +kernel
theorem dX12_pairsOf_58 : decode cX12_pairsOf 58 = .ok (.iload_n 2, 1) := by decide +kernel
theorem dX12_pairsOf_59 : decode cX12_pairsOf 59 = .ok (.if_icmp .eq 6, 3) := by decide +kernel
theorem dX12_pairsOf_62 : decode cX12_pairsOf 62 = .ok (.goto 108, 3) := by decide +kernel
theorem dX12_pairsOf_65 : decode cX12_pairsOf 65 = .ok (.iconst 1, 1) := by decide +kernel
theorem dX12_pairsOf_66 : decode cX12_pairsOf 66 = .ok (.iload_n 3, 1) := by decide +kernel
theorem dX12_pairsOf_67 : decode cX12_pairsOf 67 = .ok (.ishl, 1) := by decide +kernel
theorem dX12_pairsOf_68 : decode cX12_pairsOf 68 = .ok (.iconst 1, 1) := by decide +kernel
theorem dX12_pairsOf_69 : decode cX12_pairsOf 69 = .ok (.isub, 1) := by decide +kernel
theorem dX12_pairsOf_70 : decode cX12_pairsOf 70 = .ok (.istore 5, 2) := by decide +kernel
theorem dX12_pairsOf_72 : decode cX12_pairsOf 72 = .ok (.iload 5, 2) := by decide +kernel
theorem dX12_pairsOf_74 : decode cX12_pairsOf 74 = .ok (.ifCond .lt 96, 3) := by decide +kernel
theorem dX12_pairsOf_77 : decode cX12_pairsOf 77 = .ok (.aload_n 0, 1) := by decide +kernel
theorem dX12_pairsOf_78 : decode cX12_pairsOf 78 = .ok (.getfield 192, 3) := by decide +kernel
theorem dX12_pairsOf_81 : decode cX12_pairsOf 81 = .ok (.iload 5, 2) := by decide +kernel
theorem dX12_pairsOf_83 : decode cX12_pairsOf 83 = .ok (.baload, 1) := by decide +kernel
theorem dX12_pairsOf_84 : decode cX12_pairsOf 84 = .ok (.ifCond .ne 6, 3) := by decide +kernel
theorem dX12_pairsOf_87 : decode cX12_pairsOf 87 = .ok (.goto 77, 3) := by decide +kernel
theorem dX12_pairsOf_90 : decode cX12_pairsOf 90 = .ok (.iconst 0, 1) := by decide +kernel
theorem dX12_pairsOf_91 : decode cX12_pairsOf 91 = .ok (.istore 6, 2) := by decide +kernel
theorem dX12_pairsOf_93 : decode cX12_pairsOf 93 = .ok (.iconst 0, 1) := by decide +kernel
theorem dX12_pairsOf_94 : decode cX12_pairsOf 94 = .ok (.istore 7, 2) := by decide +kernel
theorem dX12_pairsOf_96 : decode cX12_pairsOf 96 = .ok (.iload 7, 2) := by decide +kernel
theorem dX12_pairsOf_98 : decode cX12_pairsOf 98 = .ok (.aload_n 0, 1) := by decide +kernel
theorem dX12_pairsOf_99 : decode cX12_pairsOf 99 = .ok (.getfield 211, 3) := by decide +kernel
theorem dX12_pairsOf_102 : decode cX12_pairsOf 102 = .ok (.if_icmp .ge 62, 3) := by decide +kernel
theorem dX12_pairsOf_105 : decode cX12_pairsOf 105 = .ok (.iload_n 1, 1) := by decide +kernel
theorem dX12_pairsOf_106 : decode cX12_pairsOf 106 = .ok (.iload 7, 2) := by decide +kernel
theorem dX12_pairsOf_108 : decode cX12_pairsOf 108 = .ok (.invokestatic 440, 3) := by decide +kernel
theorem dX12_pairsOf_111 : decode cX12_pairsOf 111 = .ok (.ifCond .ne 6, 3) := by decide +kernel
theorem dX12_pairsOf_114 : decode cX12_pairsOf 114 = .ok (.goto 44, 3) := by decide +kernel
theorem dX12_pairsOf_117 : decode cX12_pairsOf 117 = .ok (.aload_n 0, 1) := by decide +kernel
theorem dX12_pairsOf_118 : decode cX12_pairsOf 118 = .ok (.getfield 195, 3) := by decide +kernel
theorem dX12_pairsOf_121 : decode cX12_pairsOf 121 = .ok (.iload 4, 2) := by decide +kernel
theorem dX12_pairsOf_123 : decode cX12_pairsOf 123 = .ok (.iaload, 1) := by decide +kernel
theorem dX12_pairsOf_124 : decode cX12_pairsOf 124 = .ok (.iload 7, 2) := by decide +kernel
theorem dX12_pairsOf_126 : decode cX12_pairsOf 126 = .ok (.invokestatic 440, 3) := by decide +kernel
theorem dX12_pairsOf_129 : decode cX12_pairsOf 129 = .ok (.ifCond .eq 26, 3) := by decide +kernel
theorem dX12_pairsOf_132 : decode cX12_pairsOf 132 = .ok (.iload 5, 2) := by decide +kernel
theorem dX12_pairsOf_134 : decode cX12_pairsOf 134 = .ok (.iload 6, 2) := by decide +kernel
theorem dX12_pairsOf_136 : decode cX12_pairsOf 136 = .ok (.invokestatic 440, 3) := by decide +kernel
theorem dX12_pairsOf_139 : decode cX12_pairsOf 139 = .ok (.ifCond .ne 16, 3) := by decide +kernel
theorem dX12_pairsOf_142 : decode cX12_pairsOf 142 = .ok (.aload_n 0, 1) := by decide +kernel
theorem dX12_pairsOf_143 : decode cX12_pairsOf 143 = .ok (.getfield 192, 3) := by decide +kernel
theorem dX12_pairsOf_146 : decode cX12_pairsOf 146 = .ok (.iload 5, 2) := by decide +kernel
theorem dX12_pairsOf_148 : decode cX12_pairsOf 148 = .ok (.iconst 1, 1) := by decide +kernel
theorem dX12_pairsOf_149 : decode cX12_pairsOf 149 = .ok (.iload 6, 2) := by decide +kernel
theorem dX12_pairsOf_151 : decode cX12_pairsOf 151 = .ok (.ishl, 1) := by decide +kernel
theorem dX12_pairsOf_152 : decode cX12_pairsOf 152 = .ok (.ior, 1) := by decide +kernel
theorem dX12_pairsOf_153 : decode cX12_pairsOf 153 = .ok (.iconst 1, 1) := by decide +kernel
theorem dX12_pairsOf_154 : decode cX12_pairsOf 154 = .ok (.bastore, 1) := by decide +kernel
theorem dX12_pairsOf_155 : decode cX12_pairsOf 155 = .ok (.iinc 6 1, 3) := by decide +kernel
theorem dX12_pairsOf_158 : decode cX12_pairsOf 158 = .ok (.iinc 7 1, 3) := by decide +kernel
theorem dX12_pairsOf_161 : decode cX12_pairsOf 161 = .ok (.goto (-65), 3) := by decide +kernel
theorem dX12_pairsOf_164 : decode cX12_pairsOf 164 = .ok (.iinc 5 (-1), 3) := by decide +kernel
theorem dX12_pairsOf_167 : decode cX12_pairsOf 167 = .ok (.goto (-95), 3) := by decide +kernel
theorem dX12_pairsOf_170 : decode cX12_pairsOf 170 = .ok (.iinc 4 1, 3) := by decide +kernel
theorem dX12_pairsOf_173 : decode cX12_pairsOf 173 = .ok (.goto (-131), 3) := by decide +kernel
theorem dX12_pairsOf_176 : decode cX12_pairsOf 176 = .ok (.iconst 0, 1) := by decide +kernel
theorem dX12_pairsOf_177 : decode cX12_pairsOf 177 = .ok (.istore 4, 2) := by decide +kernel
theorem dX12_pairsOf_179 : decode cX12_pairsOf 179 = .ok (.iconst 0, 1) := by decide +kernel
theorem dX12_pairsOf_180 : decode cX12_pairsOf 180 = .ok (.istore 5, 2) := by decide +kernel
theorem dX12_pairsOf_182 : decode cX12_pairsOf 182 = .ok (.iload 5, 2) := by decide +kernel
theorem dX12_pairsOf_184 : decode cX12_pairsOf 184 = .ok (.iconst 1, 1) := by decide +kernel
theorem dX12_pairsOf_185 : decode cX12_pairsOf 185 = .ok (.iload_n 3, 1) := by decide +kernel
theorem dX12_pairsOf_186 : decode cX12_pairsOf 186 = .ok (.ishl, 1) := by decide +kernel
theorem dX12_pairsOf_187 : decode cX12_pairsOf 187 = .ok (.if_icmp .ge 41, 3) := by decide +kernel
theorem dX12_pairsOf_190 : decode cX12_pairsOf 190 = .ok (.aload_n 0, 1) := by decide +kernel
theorem dX12_pairsOf_191 : decode cX12_pairsOf 191 = .ok (.getfield 192, 3) := by decide +kernel
theorem dX12_pairsOf_194 : decode cX12_pairsOf 194 = .ok (.iload 5, 2) := by decide +kernel
theorem dX12_pairsOf_196 : decode cX12_pairsOf 196 = .ok (.baload, 1) := by decide +kernel
theorem dX12_pairsOf_197 : decode cX12_pairsOf 197 = .ok (.ifCond .eq 21, 3) := by decide +kernel
theorem dX12_pairsOf_200 : decode cX12_pairsOf 200 = .ok (.iload 5, 2) := by decide +kernel
theorem dX12_pairsOf_202 : decode cX12_pairsOf 202 = .ok (.invokestatic 531, 3) := by decide +kernel
theorem dX12_pairsOf_205 : decode cX12_pairsOf 205 = .ok (.iload 4, 2) := by decide +kernel
theorem dX12_pairsOf_207 : decode cX12_pairsOf 207 = .ok (.if_icmp .le 11, 3) := by decide +kernel
theorem dX12_pairsOf_210 : decode cX12_pairsOf 210 = .ok (.iload 5, 2) := by decide +kernel
theorem dX12_pairsOf_212 : decode cX12_pairsOf 212 = .ok (.invokestatic 531, 3) := by decide +kernel
theorem dX12_pairsOf_215 : decode cX12_pairsOf 215 = .ok (.goto 5, 3) := by decide +kernel
theorem dX12_pairsOf_218 : decode cX12_pairsOf 218 = .ok (.iload 4, 2) := by decide +kernel
theorem dX12_pairsOf_220 : decode cX12_pairsOf 220 = .ok (.istore 4, 2) := by decide +kernel
theorem dX12_pairsOf_222 : decode cX12_pairsOf 222 = .ok (.iinc 5 1, 3) := by decide +kernel
theorem dX12_pairsOf_225 : decode cX12_pairsOf 225 = .ok (.goto (-43), 3) := by decide +kernel
theorem dX12_pairsOf_228 : decode cX12_pairsOf 228 = .ok (.iload 4, 2) := by decide +kernel
theorem dX12_pairsOf_230 : decode cX12_pairsOf 230 = .ok (.ireturn, 1) := by decide +kernel
theorem dX12_van_0 : decode cX12_van 0 = .ok (.iload_n 1, 1) := by decide +kernel
theorem dX12_van_1 : decode cX12_van 1 = .ok (.i2l, 1) := by decide +kernel
theorem dX12_van_2 : decode cX12_van 2 = .ok (.lconst 0, 1) := by decide +kernel
theorem dX12_van_3 : decode cX12_van 3 = .ok (.ldc2_w 243, 3) := by decide +kernel
theorem dX12_van_6 : decode cX12_van 6 = .ok (.invokestatic 203, 3) := by decide +kernel
theorem dX12_van_9 : decode cX12_van 9 = .ok (.ifCond .eq 25, 3) := by decide +kernel
theorem dX12_van_12 : decode cX12_van 12 = .ok (.iload_n 2, 1) := by decide +kernel
theorem dX12_van_13 : decode cX12_van 13 = .ok (.i2l, 1) := by decide +kernel
theorem dX12_van_14 : decode cX12_van 14 = .ok (.lconst 1, 1) := by decide +kernel
theorem dX12_van_15 : decode cX12_van 15 = .ok (.ldc2_w 237, 3) := by decide +kernel
theorem dX12_van_18 : decode cX12_van 18 = .ok (.invokestatic 203, 3) := by decide +kernel
theorem dX12_van_21 : decode cX12_van 21 = .ok (.ifCond .eq 13, 3) := by decide +kernel
theorem dX12_van_24 : decode cX12_van 24 = .ok (.iload_n 3, 1) := by decide +kernel
theorem dX12_van_25 : decode cX12_van 25 = .ok (.i2l, 1) := by decide +kernel
theorem dX12_van_26 : decode cX12_van 26 = .ok (.lconst 0, 1) := by decide +kernel
theorem dX12_van_27 : decode cX12_van 27 = .ok (.lconst 1, 1) := by decide +kernel
theorem dX12_van_28 : decode cX12_van 28 = .ok (.invokestatic 203, 3) := by decide +kernel
theorem dX12_van_31 : decode cX12_van 31 = .ok (.ifCond .ne 5, 3) := by decide +kernel
theorem dX12_van_34 : decode cX12_van 34 = .ok (.iconst (-1), 1) := by decide +kernel
theorem dX12_van_35 : decode cX12_van 35 = .ok (.ireturn, 1) := by decide +kernel
theorem dX12_van_36 : decode cX12_van 36 = .ok (.iconst 0, 1) := by decide +kernel
theorem dX12_van_37 : decode cX12_van 37 = .ok (.istore 4, 2) := by decide +kernel
theorem dX12_van_39 : decode cX12_van 39 = .ok (.iconst 0, 1) := by decide +kernel
theorem dX12_van_40 : decode cX12_van 40 = .ok (.istore 5, 2) := by decide +kernel
theorem dX12_van_42 : decode cX12_van 42 = .ok (.iload 5, 2) := by decide +kernel
theorem dX12_van_44 : decode cX12_van 44 = .ok (.aload_n 0, 1) := by decide +kernel
theorem dX12_van_45 : decode cX12_van 45 = .ok (.getfield 214, 3) := by decide +kernel
theorem dX12_van_48 : decode cX12_van 48 = .ok (.if_icmp .ge 109, 3) := by decide +kernel
theorem dX12_van_51 : decode cX12_van 51 = .ok (.aload_n 0, 1) := by decide +kernel
theorem dX12_van_52 : decode cX12_van 52 = .ok (.getfield 195, 3) := by decide +kernel
theorem dX12_van_55 : decode cX12_van 55 = .ok (.iload 5, 2) := by decide +kernel
theorem dX12_van_57 : decode cX12_van 57 = .ok (.iconst 0, 1) := by decide +kernel
theorem dX12_van_58 : decode cX12_van 58 = .ok (.iastore, 1) := by decide +kernel
theorem dX12_van_59 : decode cX12_van 59 = .ok (.iconst 0, 1) := by decide +kernel
theorem dX12_van_60 : decode cX12_van 60 = .ok (.istore 6, 2) := by decide +kernel
theorem dX12_van_62 : decode cX12_van 62 = .ok (.iload 6, 2) := by decide +kernel
theorem dX12_van_64 : decode cX12_van 64 = .ok (.aload_n 0, 1) := by decide +kernel
theorem dX12_van_65 : decode cX12_van 65 = .ok (.getfield 211, 3) := by decide +kernel
theorem dX12_van_68 : decode cX12_van 68 = .ok (.if_icmp .ge 71, 3) := by decide +kernel
theorem dX12_van_71 : decode cX12_van 71 = .ok (.aload_n 0, 1) := by decide +kernel
theorem dX12_van_72 : decode cX12_van 72 = .ok (.getfield 75, 3) := by decide +kernel
theorem dX12_van_75 : decode cX12_van 75 = .ok (.iload 5, 2) := by decide +kernel
theorem dX12_van_77 : decode cX12_van 77 = .ok (.iaload, 1) := by decide +kernel
theorem dX12_van_78 : decode cX12_van 78 = .ok (.iload_n 1, 1) := by decide +kernel
theorem dX12_van_79 : decode cX12_van 79 = .ok (.if_icmp .ne 60, 3) := by decide +kernel
theorem dX12_van_82 : decode cX12_van 82 = .ok (.aload_n 0, 1) := by decide +kernel
theorem dX12_van_83 : decode cX12_van 83 = .ok (.getfield 195, 3) := by decide +kernel
theorem dX12_van_86 : decode cX12_van 86 = .ok (.iload 5, 2) := by decide +kernel
theorem dX12_van_88 : decode cX12_van 88 = .ok (.dup2, 1) := by decide +kernel
theorem dX12_van_89 : decode cX12_van 89 = .ok (.iaload, 1) := by decide +kernel
theorem dX12_van_90 : decode cX12_van 90 = .ok (.aload_n 0, 1) := by decide +kernel
theorem dX12_van_91 : decode cX12_van 91 = .ok (.getfield 183, 3) := by decide +kernel
theorem dX12_van_94 : decode cX12_van 94 = .ok (.bipush 8, 2) := by decide +kernel
theorem dX12_van_96 : decode cX12_van 96 = .ok (.iload 5, 2) := by decide +kernel
theorem dX12_van_98 : decode cX12_van 98 = .ok (.imul, 1) := by decide +kernel
theorem dX12_van_99 : decode cX12_van 99 = .ok (.aload_n 0, 1) := by decide +kernel
theorem dX12_van_100 : decode cX12_van 100 = .ok (.getfield 35, 3) := by decide +kernel
theorem dX12_van_103 : decode cX12_van 103 = .ok (.iload 6, 2) := by decide +kernel
theorem dX12_van_105 : decode cX12_van 105 = .ok (.iaload, 1) := by decide +kernel
theorem dX12_van_106 : decode cX12_van 106 = .ok (.iadd, 1) := by decide +kernel
theorem dX12_van_107 : decode cX12_van 107 = .ok (.iaload, 1) := by decide +kernel
theorem dX12_van_108 : decode cX12_van 108 = .ok (.iconst (-1), 1) := by decide +kernel
theorem dX12_van_109 : decode cX12_van 109 = .ok (.if_icmp .eq 21, 3) := by decide +kernel
theorem dX12_van_112 : decode cX12_van 112 = .ok (.aload_n 0, 1) := by decide +kernel
theorem dX12_van_113 : decode cX12_van 113 = .ok (.iload 6, 2) := by decide +kernel
theorem dX12_van_115 : decode cX12_van 115 = .ok (.iload 5, 2) := by decide +kernel
theorem dX12_van_117 : decode cX12_van 117 = .ok (.invokevirtual 468, 3) := by decide +kernel
theorem dX12_van_120 : decode cX12_van 120 = .ok (.ifCond .ne 10, 3) := by decide +kernel
theorem dX12_van_123 : decode cX12_van 123 = .ok (.iconst 1, 1) := by decide +kernel
theorem dX12_van_124 : decode cX12_van 124 = .ok (.iload 6, 2) := by decide +kernel
theorem dX12_van_126 : decode cX12_van 126 = .ok (.ishl, 1) := by decide +kernel
theorem dX12_van_127 : decode cX12_van 127 = .ok (.goto 4, 3) := by decide +kernel
theorem dX12_van_130 : decode cX12_van 130 = .ok (.iconst 0, 1) := by decide +kernel
theorem dX12_van_131 : decode cX12_van 131 = .ok (.ior, 1) := by decide +kernel
theorem dX12_van_132 : decode cX12_van 132 = .ok (.iastore, 1) := by decide +kernel
theorem dX12_van_133 : decode cX12_van 133 = .ok (.iinc 6 1, 3) := by decide +kernel
theorem dX12_van_136 : decode cX12_van 136 = .ok (.goto (-74), 3) := by decide +kernel
theorem dX12_van_139 : decode cX12_van 139 = .ok (.iload 4, 2) := by decide +kernel
theorem dX12_van_141 : decode cX12_van 141 = .ok (.aload_n 0, 1) := by decide +kernel
theorem dX12_van_142 : decode cX12_van 142 = .ok (.getfield 195, 3) := by decide +kernel
theorem dX12_van_145 : decode cX12_van 145 = .ok (.iload 5, 2) := by decide +kernel
theorem dX12_van_147 : decode cX12_van 147 = .ok (.iaload, 1) := by decide +kernel
theorem dX12_van_148 : decode cX12_van 148 = .ok (.ior, 1) := by decide +kernel
theorem dX12_van_149 : decode cX12_van 149 = .ok (.istore 4, 2) := by decide +kernel
theorem dX12_van_151 : decode cX12_van 151 = .ok (.iinc 5 1, 3) := by decide +kernel
theorem dX12_van_154 : decode cX12_van 154 = .ok (.goto (-112), 3) := by decide +kernel
theorem dX12_van_157 : decode cX12_van 157 = .ok (.iconst 0, 1) := by decide +kernel
theorem dX12_van_158 : decode cX12_van 158 = .ok (.istore 5, 2) := by decide +kernel
theorem dX12_van_160 : decode cX12_van 160 = .ok (.iconst 0, 1) := by decide +kernel
theorem dX12_van_161 : decode cX12_van 161 = .ok (.istore 6, 2) := by decide +kernel
theorem dX12_van_163 : decode cX12_van 163 = .ok (.iconst 1, 1) := by decide +kernel
theorem dX12_van_164 : decode cX12_van 164 = .ok (.istore 7, 2) := by decide +kernel
theorem dX12_van_166 : decode cX12_van 166 = .ok (.iload 7, 2) := by decide +kernel
theorem dX12_van_168 : decode cX12_van 168 = .ok (.iconst 1, 1) := by decide +kernel
theorem dX12_van_169 : decode cX12_van 169 = .ok (.aload_n 0, 1) := by decide +kernel
theorem dX12_van_170 : decode cX12_van 170 = .ok (.getfield 211, 3) := by decide +kernel
theorem dX12_van_173 : decode cX12_van 173 = .ok (.ishl, 1) := by decide +kernel
theorem dX12_van_174 : decode cX12_van 174 = .ok (.if_icmp .ge 78, 3) := by decide +kernel
theorem dX12_van_177 : decode cX12_van 177 = .ok (.iload 7, 2) := by decide +kernel
theorem dX12_van_179 : decode cX12_van 179 = .ok (.invokestatic 531, 3) := by decide +kernel
theorem dX12_van_182 : decode cX12_van 182 = .ok (.iload_n 2, 1) := by decide +kernel
theorem dX12_van_183 : decode cX12_van 183 = .ok (.if_icmp .gt 63, 3) := by decide +kernel
theorem dX12_van_186 : decode cX12_van 186 = .ok (.iload 7, 2) := by decide +kernel
theorem dX12_van_188 : decode cX12_van 188 = .ok (.iload 4, 2) := by decide +kernel
theorem dX12_van_190 : decode cX12_van 190 = .ok (.iconst (-1), 1) := by decide +kernel
theorem dX12_van_191 : decode cX12_van 191 = .ok (.ixor, 1) := by decide +kernel
theorem dX12_van_192 : decode cX12_van 192 = .ok (.iand, 1) := by decide +kernel
theorem dX12_van_193 : decode cX12_van 193 = .ok (.ifCond .eq 6, 3) := by decide +kernel
theorem dX12_van_196 : decode cX12_van 196 = .ok (.goto 50, 3) := by decide +kernel
theorem dX12_van_199 : decode cX12_van 199 = .ok (.aload_n 0, 1) := by decide +kernel
theorem dX12_van_200 : decode cX12_van 200 = .ok (.iload 7, 2) := by decide +kernel
theorem dX12_van_202 : decode cX12_van 202 = .ok (.iload_n 1, 1) := by decide +kernel
theorem dX12_van_203 : decode cX12_van 203 = .ok (.invokevirtual 534, 3) := by decide +kernel
theorem dX12_van_206 : decode cX12_van 206 = .ok (.istore 8, 2) := by decide +kernel
theorem dX12_van_208 : decode cX12_van 208 = .ok (.iload 8, 2) := by decide +kernel
theorem dX12_van_210 : decode cX12_van 210 = .ok (.iload 6, 2) := by decide +kernel
theorem dX12_van_212 : decode cX12_van 212 = .ok (.if_icmp .lt 34, 3) := by decide +kernel
theorem dX12_van_215 : decode cX12_van 215 = .ok (.iload 8, 2) := by decide +kernel
theorem dX12_van_217 : decode cX12_van 217 = .ok (.iload 6, 2) := by decide +kernel
theorem dX12_van_219 : decode cX12_van 219 = .ok (.if_icmp .ne 19, 3) := by decide +kernel
theorem dX12_van_222 : decode cX12_van 222 = .ok (.iload 7, 2) := by decide +kernel
theorem dX12_van_224 : decode cX12_van 224 = .ok (.invokestatic 531, 3) := by decide +kernel
theorem dX12_van_227 : decode cX12_van 227 = .ok (.iload 5, 2) := by decide +kernel
theorem dX12_van_229 : decode cX12_van 229 = .ok (.invokestatic 531, 3) := by decide +kernel
theorem dX12_van_232 : decode cX12_van 232 = .ok (.if_icmp .lt 6, 3) := by decide +kernel
theorem dX12_van_235 : decode cX12_van 235 = .ok (.goto 11, 3) := by decide +kernel
theorem dX12_van_238 : decode cX12_van 238 = .ok (.iload 7, 2) := by decide +kernel
theorem dX12_van_240 : decode cX12_van 240 = .ok (.istore 5, 2) := by decide +kernel
theorem dX12_van_242 : decode cX12_van 242 = .ok (.iload 8, 2) := by decide +kernel
theorem dX12_van_244 : decode cX12_van 244 = .ok (.istore 6, 2) := by decide +kernel
theorem dX12_van_246 : decode cX12_van 246 = .ok (.iinc 7 1, 3) := by decide +kernel
theorem dX12_van_249 : decode cX12_van 249 = .ok (.goto (-83), 3) := by decide +kernel
theorem dX12_van_252 : decode cX12_van 252 = .ok (.iload_n 3, 1) := by decide +kernel
theorem dX12_van_253 : decode cX12_van 253 = .ok (.ifCond .ne 8, 3) := by decide +kernel
theorem dX12_van_256 : decode cX12_van 256 = .ok (.iload 5, 2) := by decide +kernel
theorem dX12_van_258 : decode cX12_van 258 = .ok (.goto 5, 3) := by decide +kernel
theorem dX12_van_261 : decode cX12_van 261 = .ok (.iload 6, 2) := by decide +kernel
theorem dX12_van_263 : decode cX12_van 263 = .ok (.ireturn, 1) := by decide +kernel
theorem dX12_minutes_0 : decode cX12_minutes 0 = .ok (.iload_n 1, 1) := by decide +kernel
theorem dX12_minutes_1 : decode cX12_minutes 1 = .ok (.invokestatic 234, 3) := by decide +kernel
theorem dX12_minutes_4 : decode cX12_minutes 4 = .ok (.ifCond .eq 15, 3) := by decide +kernel
theorem dX12_minutes_7 : decode cX12_minutes 7 = .ok (.iload_n 2, 1) := by decide +kernel
theorem dX12_minutes_8 : decode cX12_minutes 8 = .ok (.i2l, 1) := by decide +kernel
theorem dX12_minutes_9 : decode cX12_minutes 9 = .ok (.lconst 0, 1) := by decide +kernel
theorem dX12_minutes_10 : decode cX12_minutes 10 = .ok (.ldc2_w 537, 3) := by decide +kernel
theorem dX12_minutes_13 : decode cX12_minutes 13 = .ok (.invokestatic 203, 3) := by decide +kernel
theorem dX12_minutes_16 : decode cX12_minutes 16 = .ok (.ifCond .ne 5, 3) := by decide +kernel
theorem dX12_minutes_19 : decode cX12_minutes 19 = .ok (.iconst 0, 1) := by decide +kernel
theorem dX12_minutes_20 : decode cX12_minutes 20 = .ok (.ireturn, 1) := by decide +kernel
theorem dX12_minutes_21 : decode cX12_minutes 21 = .ok (.aload_n 0, 1) := by decide +kernel
theorem dX12_minutes_22 : decode cX12_minutes 22 = .ok (.getfield 198, 3) := by decide +kernel
theorem dX12_minutes_25 : decode cX12_minutes 25 = .ok (.iload_n 1, 1) := by decide +kernel
theorem dX12_minutes_26 : decode cX12_minutes 26 = .ok (.iload_n 2, 1) := by decide +kernel
theorem dX12_minutes_27 : decode cX12_minutes 27 = .ok (.iastore, 1) := by decide +kernel
theorem dX12_minutes_28 : decode cX12_minutes 28 = .ok (.iconst 1, 1) := by decide +kernel
theorem dX12_minutes_29 : decode cX12_minutes 29 = .ok (.ireturn, 1) := by decide +kernel
theorem dX12_mendTime_0 : decode cX12_mendTime 0 = .ok (.iconst 0, 1) := by decide +kernel
theorem dX12_mendTime_1 : decode cX12_mendTime 1 = .ok (.istore_n 2, 1) := by decide +kernel
theorem dX12_mendTime_2 : decode cX12_mendTime 2 = .ok (.iconst 0, 1) := by decide +kernel
theorem dX12_mendTime_3 : decode cX12_mendTime 3 = .ok (.istore_n 3, 1) := by decide +kernel
theorem dX12_mendTime_4 : decode cX12_mendTime 4 = .ok (.iload_n 3, 1) := by decide +kernel
theorem dX12_mendTime_5 : decode cX12_mendTime 5 = .ok (.bipush 6, 2) := by decide +kernel
theorem dX12_mendTime_7 : decode cX12_mendTime 7 = .ok (.if_icmp .ge 47, 3) := by decide +kernel
theorem dX12_mendTime_10 : decode cX12_mendTime 10 = .ok (.iload_n 2, 1) := by decide +kernel
theorem dX12_mendTime_11 : decode cX12_mendTime 11 = .ok (.aload_n 0, 1) := by decide +kernel
theorem dX12_mendTime_12 : decode cX12_mendTime 12 = .ok (.getfield 198, 3) := by decide +kernel
theorem dX12_mendTime_15 : decode cX12_mendTime 15 = .ok (.iload_n 3, 1) := by decide +kernel
theorem dX12_mendTime_16 : decode cX12_mendTime 16 = .ok (.iaload, 1) := by decide +kernel
theorem dX12_mendTime_17 : decode cX12_mendTime 17 = .ok (.aload_n 0, 1) := by decide +kernel
theorem dX12_mendTime_18 : decode cX12_mendTime 18 = .ok (.getfield 29, 3) := by decide +kernel
theorem dX12_mendTime_21 : decode cX12_mendTime 21 = .ok (.bipush 6, 2) := by decide +kernel
theorem dX12_mendTime_23 : decode cX12_mendTime 23 = .ok (.aload_n 0, 1) := by decide +kernel
theorem dX12_mendTime_24 : decode cX12_mendTime 24 = .ok (.getfield 35, 3) := by decide +kernel
theorem dX12_mendTime_27 : decode cX12_mendTime 27 = .ok (.iload_n 1, 1) := by decide +kernel
theorem dX12_mendTime_28 : decode cX12_mendTime 28 = .ok (.iaload, 1) := by decide +kernel
theorem dX12_mendTime_29 : decode cX12_mendTime 29 = .ok (.imul, 1) := by decide +kernel
theorem dX12_mendTime_30 : decode cX12_mendTime 30 = .ok (.iload_n 3, 1) := by decide +kernel
theorem dX12_mendTime_31 : decode cX12_mendTime 31 = .ok (.iadd, 1) := by decide +kernel
theorem dX12_mendTime_32 : decode cX12_mendTime 32 = .ok (.iaload, 1) := by decide +kernel
theorem dX12_mendTime_33 : decode cX12_mendTime 33 = .ok (.aload_n 0, 1) := by decide +kernel
theorem dX12_mendTime_34 : decode cX12_mendTime 34 = .ok (.getfield 66, 3) := by decide +kernel
theorem dX12_mendTime_37 : decode cX12_mendTime 37 = .ok (.bipush 6, 2) := by decide +kernel
theorem dX12_mendTime_39 : decode cX12_mendTime 39 = .ok (.iload_n 1, 1) := by decide +kernel
theorem dX12_mendTime_40 : decode cX12_mendTime 40 = .ok (.imul, 1) := by decide +kernel
theorem dX12_mendTime_41 : decode cX12_mendTime 41 = .ok (.iload_n 3, 1) := by decide +kernel
theorem dX12_mendTime_42 : decode cX12_mendTime 42 = .ok (.iadd, 1) := by decide +kernel
theorem dX12_mendTime_43 : decode cX12_mendTime 43 = .ok (.iaload, 1) := by decide +kernel
theorem dX12_mendTime_44 : decode cX12_mendTime 44 = .ok (.isub, 1) := by decide +kernel
theorem dX12_mendTime_45 : decode cX12_mendTime 45 = .ok (.imul, 1) := by decide +kernel
theorem dX12_mendTime_46 : decode cX12_mendTime 46 = .ok (.iadd, 1) := by decide +kernel
theorem dX12_mendTime_47 : decode cX12_mendTime 47 = .ok (.istore_n 2, 1) := by decide +kernel
theorem dX12_mendTime_48 : decode cX12_mendTime 48 = .ok (.iinc 3 1, 3) := by decide +kernel
theorem dX12_mendTime_51 : decode cX12_mendTime 51 = .ok (.goto (-47), 3) := by decide +kernel
theorem dX12_mendTime_54 : decode cX12_mendTime 54 = .ok (.iload_n 2, 1) := by decide +kernel
theorem dX12_mendTime_55 : decode cX12_mendTime 55 = .ok (.ireturn, 1) := by decide +kernel
theorem dX12_canMend_0 : decode cX12_canMend 0 = .ok (.aload_n 0, 1) := by decide +kernel
theorem dX12_canMend_1 : decode cX12_canMend 1 = .ok (.getfield 44, 3) := by decide +kernel
theorem dX12_canMend_4 : decode cX12_canMend 4 = .ok (.iload_n 1, 1) := by decide +kernel
theorem dX12_canMend_5 : decode cX12_canMend 5 = .ok (.iaload, 1) := by decide +kernel
theorem dX12_canMend_6 : decode cX12_canMend 6 = .ok (.ifCond .ne 15, 3) := by decide +kernel
theorem dX12_canMend_9 : decode cX12_canMend 9 = .ok (.aload_n 0, 1) := by decide +kernel
theorem dX12_canMend_10 : decode cX12_canMend 10 = .ok (.iload_n 1, 1) := by decide +kernel
theorem dX12_canMend_11 : decode cX12_canMend 11 = .ok (.invokevirtual 390, 3) := by decide +kernel
theorem dX12_canMend_14 : decode cX12_canMend 14 = .ok (.ifCond .le 7, 3) := by decide +kernel
theorem dX12_canMend_17 : decode cX12_canMend 17 = .ok (.iconst 1, 1) := by decide +kernel
theorem dX12_canMend_18 : decode cX12_canMend 18 = .ok (.goto 4, 3) := by decide +kernel
theorem dX12_canMend_21 : decode cX12_canMend 21 = .ok (.iconst 0, 1) := by decide +kernel
theorem dX12_canMend_22 : decode cX12_canMend 22 = .ok (.ireturn, 1) := by decide +kernel
theorem dX12_mending_0 : decode cX12_mending 0 = .ok (.iload_n 1, 1) := by decide +kernel
theorem dX12_mending_1 : decode cX12_mending 1 = .ok (.i2l, 1) := by decide +kernel
theorem dX12_mending_2 : decode cX12_mending 2 = .ok (.lconst 0, 1) := by decide +kernel
theorem dX12_mending_3 : decode cX12_mending 3 = .ok (.ldc2_w 539, 3) := by decide +kernel
theorem dX12_mending_6 : decode cX12_mending 6 = .ok (.invokestatic 203, 3) := by decide +kernel
theorem dX12_mending_9 : decode cX12_mending 9 = .ok (.ifCond .eq 15, 3) := by decide +kernel
theorem dX12_mending_12 : decode cX12_mending 12 = .ok (.iload_n 2, 1) := by decide +kernel
theorem dX12_mending_13 : decode cX12_mending 13 = .ok (.i2l, 1) := by decide +kernel
theorem dX12_mending_14 : decode cX12_mending 14 = .ok (.lconst 0, 1) := by decide +kernel
theorem dX12_mending_15 : decode cX12_mending 15 = .ok (.ldc2_w 513, 3) := by decide +kernel
theorem dX12_mending_18 : decode cX12_mending 18 = .ok (.invokestatic 203, 3) := by decide +kernel
theorem dX12_mending_21 : decode cX12_mending 21 = .ok (.ifCond .ne 5, 3) := by decide +kernel
theorem dX12_mending_24 : decode cX12_mending 24 = .ok (.iconst (-1), 1) := by decide +kernel
theorem dX12_mending_25 : decode cX12_mending 25 = .ok (.ireturn, 1) := by decide +kernel
theorem dX12_mending_26 : decode cX12_mending 26 = .ok (.iconst 0, 1) := by decide +kernel
theorem dX12_mending_27 : decode cX12_mending 27 = .ok (.istore_n 3, 1) := by decide +kernel
theorem dX12_mending_28 : decode cX12_mending 28 = .ok (.iconst 0, 1) := by decide +kernel
theorem dX12_mending_29 : decode cX12_mending 29 = .ok (.istore 4, 2) := by decide +kernel
theorem dX12_mending_31 : decode cX12_mending 31 = .ok (.iload 4, 2) := by decide +kernel
theorem dX12_mending_33 : decode cX12_mending 33 = .ok (.aload_n 0, 1) := by decide +kernel
theorem dX12_mending_34 : decode cX12_mending 34 = .ok (.getfield 211, 3) := by decide +kernel
theorem dX12_mending_37 : decode cX12_mending 37 = .ok (.if_icmp .ge 29, 3) := by decide +kernel
theorem dX12_mending_40 : decode cX12_mending 40 = .ok (.iload_n 3, 1) := by decide +kernel
theorem dX12_mending_41 : decode cX12_mending 41 = .ok (.aload_n 0, 1) := by decide +kernel
theorem dX12_mending_42 : decode cX12_mending 42 = .ok (.iload 4, 2) := by decide +kernel
theorem dX12_mending_44 : decode cX12_mending 44 = .ok (.invokevirtual 541, 3) := by decide +kernel
theorem dX12_mending_47 : decode cX12_mending 47 = .ok (.ifCond .eq 10, 3) := by decide +kernel
theorem dX12_mending_50 : decode cX12_mending 50 = .ok (.iconst 1, 1) := by decide +kernel
theorem dX12_mending_51 : decode cX12_mending 51 = .ok (.iload 4, 2) := by decide +kernel
theorem dX12_mending_53 : decode cX12_mending 53 = .ok (.ishl, 1) := by decide +kernel
theorem dX12_mending_54 : decode cX12_mending 54 = .ok (.goto 4, 3) := by decide +kernel
theorem dX12_mending_57 : decode cX12_mending 57 = .ok (.iconst 0, 1) := by decide +kernel
theorem dX12_mending_58 : decode cX12_mending 58 = .ok (.ior, 1) := by decide +kernel
theorem dX12_mending_59 : decode cX12_mending 59 = .ok (.istore_n 3, 1) := by decide +kernel
theorem dX12_mending_60 : decode cX12_mending 60 = .ok (.iinc 4 1, 3) := by decide +kernel
theorem dX12_mending_63 : decode cX12_mending 63 = .ok (.goto (-32), 3) := by decide +kernel
theorem dX12_mending_66 : decode cX12_mending 66 = .ok (.iconst 0, 1) := by decide +kernel
theorem dX12_mending_67 : decode cX12_mending 67 = .ok (.istore 4, 2) := by decide +kernel
theorem dX12_mending_69 : decode cX12_mending 69 = .ok (.iconst 0, 1) := by decide +kernel
theorem dX12_mending_70 : decode cX12_mending 70 = .ok (.istore 5, 2) := by decide +kernel
theorem dX12_mending_72 : decode cX12_mending 72 = .ok (.iconst 0, 1) := by decide +kernel
theorem dX12_mending_73 : decode cX12_mending 73 = .ok (.istore 6, 2) := by decide +kernel
theorem dX12_mending_75 : decode cX12_mending 75 = .ok (.iconst 1, 1) := by decide +kernel
theorem dX12_mending_76 : decode cX12_mending 76 = .ok (.istore 7, 2) := by decide +kernel
theorem dX12_mending_78 : decode cX12_mending 78 = .ok (.iload 7, 2) := by decide +kernel
theorem dX12_mending_80 : decode cX12_mending 80 = .ok (.iconst 1, 1) := by decide +kernel
theorem dX12_mending_81 : decode cX12_mending 81 = .ok (.aload_n 0, 1) := by decide +kernel
theorem dX12_mending_82 : decode cX12_mending 82 = .ok (.getfield 211, 3) := by decide +kernel
theorem dX12_mending_85 : decode cX12_mending 85 = .ok (.ishl, 1) := by decide +kernel
theorem dX12_mending_86 : decode cX12_mending 86 = .ok (.if_icmp .ge 129, 3) := by decide +kernel
theorem dX12_mending_89 : decode cX12_mending 89 = .ok (.iload 7, 2) := by decide +kernel
theorem dX12_mending_91 : decode cX12_mending 91 = .ok (.iload_n 3, 1) := by decide +kernel
theorem dX12_mending_92 : decode cX12_mending 92 = .ok (.iconst (-1), 1) := by decide +kernel
theorem dX12_mending_93 : decode cX12_mending 93 = .ok (.ixor, 1) := by decide +kernel
theorem dX12_mending_94 : decode cX12_mending 94 = .ok (.iand, 1) := by decide +kernel
theorem dX12_mending_95 : decode cX12_mending 95 = .ok (.ifCond .eq 6, 3) := by decide +kernel
theorem dX12_mending_98 : decode cX12_mending 98 = .ok (.goto 111, 3) := by decide +kernel
theorem dX12_mending_101 : decode cX12_mending 101 = .ok (.iconst 0, 1) := by decide +kernel
theorem dX12_mending_102 : decode cX12_mending 102 = .ok (.istore 8, 2) := by decide +kernel
theorem dX12_mending_104 : decode cX12_mending 104 = .ok (.iconst 0, 1) := by decide +kernel
theorem dX12_mending_105 : decode cX12_mending 105 = .ok (.istore 9, 2) := by decide +kernel
theorem dX12_mending_107 : decode cX12_mending 107 = .ok (.iconst 0, 1) := by decide +kernel
theorem dX12_mending_108 : decode cX12_mending 108 = .ok (.istore 10, 2) := by decide +kernel
theorem dX12_mending_110 : decode cX12_mending 110 = .ok (.iload 10, 2) := by decide +kernel
theorem dX12_mending_112 : decode cX12_mending 112 = .ok (.aload_n 0, 1) := by decide +kernel
theorem dX12_mending_113 : decode cX12_mending 113 = .ok (.getfield 211, 3) := by decide +kernel
theorem dX12_mending_116 : decode cX12_mending 116 = .ok (.if_icmp .ge 51, 3) := by decide +kernel
theorem dX12_mending_119 : decode cX12_mending 119 = .ok (.iload 7, 2) := by decide +kernel
theorem dX12_mending_121 : decode cX12_mending 121 = .ok (.iload 10, 2) := by decide +kernel
theorem dX12_mending_123 : decode cX12_mending 123 = .ok (.invokestatic 440, 3) := by decide +kernel
theorem dX12_mending_126 : decode cX12_mending 126 = .ok (.ifCond .ne 6, 3) := by decide +kernel
theorem dX12_mending_129 : decode cX12_mending 129 = .ok (.goto 32, 3) := by decide +kernel
theorem dX12_mending_132 : decode cX12_mending 132 = .ok (.iload 8, 2) := by decide +kernel
theorem dX12_mending_134 : decode cX12_mending 134 = .ok (.aload_n 0, 1) := by decide +kernel
theorem dX12_mending_135 : decode cX12_mending 135 = .ok (.iload 10, 2) := by decide +kernel
theorem dX12_mending_137 : decode cX12_mending 137 = .ok (.invokevirtual 544, 3) := by decide +kernel
theorem dX12_mending_140 : decode cX12_mending 140 = .ok (.iadd, 1) := by decide +kernel
theorem dX12_mending_141 : decode cX12_mending 141 = .ok (.istore 8, 2) := by decide +kernel
theorem dX12_mending_143 : decode cX12_mending 143 = .ok (.iload 9, 2) := by decide +kernel
theorem dX12_mending_145 : decode cX12_mending 145 = .ok (.aload_n 0, 1) := by decide +kernel
theorem dX12_mending_146 : decode cX12_mending 146 = .ok (.aload_n 0, 1) := by decide +kernel
theorem dX12_mending_147 : decode cX12_mending 147 = .ok (.getfield 35, 3) := by decide +kernel
theorem dX12_mending_150 : decode cX12_mending 150 = .ok (.iload 10, 2) := by decide +kernel
theorem dX12_mending_152 : decode cX12_mending 152 = .ok (.iaload, 1) := by decide +kernel
theorem dX12_mending_153 : decode cX12_mending 153 = .ok (.invokevirtual 400, 3) := by decide +kernel
theorem dX12_mending_156 : decode cX12_mending 156 = .ok (.iconst 1, 1) := by decide +kernel
theorem dX12_mending_157 : decode cX12_mending 157 = .ok (.iadd, 1) := by decide +kernel
theorem dX12_mending_158 : decode cX12_mending 158 = .ok (.iadd, 1) := by decide +kernel
theorem dX12_mending_159 : decode cX12_mending 159 = .ok (.istore 9, 2) := by decide +kernel
theorem dX12_mending_161 : decode cX12_mending 161 = .ok (.iinc 10 1, 3) := by decide +kernel
theorem dX12_mending_164 : decode cX12_mending 164 = .ok (.goto (-54), 3) := by decide +kernel
theorem dX12_mending_167 : decode cX12_mending 167 = .ok (.iload 8, 2) := by decide +kernel
theorem dX12_mending_169 : decode cX12_mending 169 = .ok (.iload_n 1, 1) := by decide +kernel
theorem dX12_mending_170 : decode cX12_mending 170 = .ok (.if_icmp .gt 39, 3) := by decide +kernel
theorem dX12_mending_173 : decode cX12_mending 173 = .ok (.iload 9, 2) := by decide +kernel
theorem dX12_mending_175 : decode cX12_mending 175 = .ok (.iload 5, 2) := by decide +kernel
theorem dX12_mending_177 : decode cX12_mending 177 = .ok (.if_icmp .lt 32, 3) := by decide +kernel
theorem dX12_mending_180 : decode cX12_mending 180 = .ok (.iload 9, 2) := by decide +kernel
theorem dX12_mending_182 : decode cX12_mending 182 = .ok (.iload 5, 2) := by decide +kernel
theorem dX12_mending_184 : decode cX12_mending 184 = .ok (.if_icmp .ne 13, 3) := by decide +kernel
theorem dX12_mending_187 : decode cX12_mending 187 = .ok (.iload 8, 2) := by decide +kernel
theorem dX12_mending_189 : decode cX12_mending 189 = .ok (.iload 6, 2) := by decide +kernel
theorem dX12_mending_191 : decode cX12_mending 191 = .ok (.if_icmp .lt 6, 3) := by decide +kernel
theorem dX12_mending_194 : decode cX12_mending 194 = .ok (.goto 15, 3) := by decide +kernel
theorem dX12_mending_197 : decode cX12_mending 197 = .ok (.iload 7, 2) := by decide +kernel
theorem dX12_mending_199 : decode cX12_mending 199 = .ok (.istore 4, 2) := by decide +kernel
theorem dX12_mending_201 : decode cX12_mending 201 = .ok (.iload 9, 2) := by decide +kernel
theorem dX12_mending_203 : decode cX12_mending 203 = .ok (.istore 5, 2) := by decide +kernel
theorem dX12_mending_205 : decode cX12_mending 205 = .ok (.iload 8, 2) := by decide +kernel
theorem dX12_mending_207 : decode cX12_mending 207 = .ok (.istore 6, 2) := by decide +kernel
theorem dX12_mending_209 : decode cX12_mending 209 = .ok (.iinc 7 1, 3) := by decide +kernel
theorem dX12_mending_212 : decode cX12_mending 212 = .ok (.goto (-134), 3) := by decide +kernel
theorem dX12_mending_215 : decode cX12_mending 215 = .ok (.iload_n 2, 1) := by decide +kernel
theorem dX12_mending_216 : decode cX12_mending 216 = .ok (.ifCond .ne 8, 3) := by decide +kernel
theorem dX12_mending_219 : decode cX12_mending 219 = .ok (.iload 4, 2) := by decide +kernel
theorem dX12_mending_221 : decode cX12_mending 221 = .ok (.goto 15, 3) := by decide +kernel
theorem dX12_mending_224 : decode cX12_mending 224 = .ok (.iload_n 2, 1) := by decide +kernel
theorem dX12_mending_225 : decode cX12_mending 225 = .ok (.iconst 1, 1) := by decide +kernel
theorem dX12_mending_226 : decode cX12_mending 226 = .ok (.if_icmp .ne 8, 3) := by decide +kernel
theorem dX12_mending_229 : decode cX12_mending 229 = .ok (.iload 6, 2) := by decide +kernel
theorem dX12_mending_231 : decode cX12_mending 231 = .ok (.goto 5, 3) := by decide +kernel
theorem dX12_mending_234 : decode cX12_mending 234 = .ok (.iload 5, 2) := by decide +kernel
theorem dX12_mending_236 : decode cX12_mending 236 = .ok (.ireturn, 1) := by decide +kernel
theorem dX12_mend_0 : decode cX12_mend 0 = .ok (.aload_n 0, 1) := by decide +kernel
theorem dX12_mend_1 : decode cX12_mend 1 = .ok (.iload_n 1, 1) := by decide +kernel
theorem dX12_mend_2 : decode cX12_mend 2 = .ok (.invokevirtual 443, 3) := by decide +kernel
theorem dX12_mend_5 : decode cX12_mend 5 = .ok (.ifCond .eq 11, 3) := by decide +kernel
theorem dX12_mend_8 : decode cX12_mend 8 = .ok (.aload_n 0, 1) := by decide +kernel
theorem dX12_mend_9 : decode cX12_mend 9 = .ok (.iload_n 1, 1) := by decide +kernel
theorem dX12_mend_10 : decode cX12_mend 10 = .ok (.invokevirtual 541, 3) := by decide +kernel
theorem dX12_mend_13 : decode cX12_mend 13 = .ok (.ifCond .ne 5, 3) := by decide +kernel
theorem dX12_mend_16 : decode cX12_mend 16 = .ok (.iconst (-1), 1) := by decide +kernel
theorem dX12_mend_17 : decode cX12_mend 17 = .ok (.ireturn, 1) := by decide +kernel
theorem dX12_mend_18 : decode cX12_mend 18 = .ok (.aload_n 0, 1) := by decide +kernel
theorem dX12_mend_19 : decode cX12_mend 19 = .ok (.iload_n 1, 1) := by decide +kernel
theorem dX12_mend_20 : decode cX12_mend 20 = .ok (.invokevirtual 390, 3) := by decide +kernel
theorem dX12_mend_23 : decode cX12_mend 23 = .ok (.istore_n 2, 1) := by decide +kernel
theorem dX12_mend_24 : decode cX12_mend 24 = .ok (.iconst 0, 1) := by decide +kernel
theorem dX12_mend_25 : decode cX12_mend 25 = .ok (.istore_n 3, 1) := by decide +kernel
theorem dX12_mend_26 : decode cX12_mend 26 = .ok (.iload_n 3, 1) := by decide +kernel
theorem dX12_mend_27 : decode cX12_mend 27 = .ok (.bipush 6, 2) := by decide +kernel
theorem dX12_mend_29 : decode cX12_mend 29 = .ok (.if_icmp .ge 36, 3) := by decide +kernel
theorem dX12_mend_32 : decode cX12_mend 32 = .ok (.aload_n 0, 1) := by decide +kernel
theorem dX12_mend_33 : decode cX12_mend 33 = .ok (.getfield 66, 3) := by decide +kernel
theorem dX12_mend_36 : decode cX12_mend 36 = .ok (.bipush 6, 2) := by decide +kernel
theorem dX12_mend_38 : decode cX12_mend 38 = .ok (.iload_n 1, 1) := by decide +kernel
theorem dX12_mend_39 : decode cX12_mend 39 = .ok (.imul, 1) := by decide +kernel
theorem dX12_mend_40 : decode cX12_mend 40 = .ok (.iload_n 3, 1) := by decide +kernel
theorem dX12_mend_41 : decode cX12_mend 41 = .ok (.iadd, 1) := by decide +kernel
theorem dX12_mend_42 : decode cX12_mend 42 = .ok (.aload_n 0, 1) := by decide +kernel
theorem dX12_mend_43 : decode cX12_mend 43 = .ok (.getfield 29, 3) := by decide +kernel
theorem dX12_mend_46 : decode cX12_mend 46 = .ok (.bipush 6, 2) := by decide +kernel
theorem dX12_mend_48 : decode cX12_mend 48 = .ok (.aload_n 0, 1) := by decide +kernel
theorem dX12_mend_49 : decode cX12_mend 49 = .ok (.getfield 35, 3) := by decide +kernel
theorem dX12_mend_52 : decode cX12_mend 52 = .ok (.iload_n 1, 1) := by decide +kernel
theorem dX12_mend_53 : decode cX12_mend 53 = .ok (.iaload, 1) := by decide +kernel
theorem dX12_mend_54 : decode cX12_mend 54 = .ok (.imul, 1) := by decide +kernel
theorem dX12_mend_55 : decode cX12_mend 55 = .ok (.iload_n 3, 1) := by decide +kernel
theorem dX12_mend_56 : decode cX12_mend 56 = .ok (.iadd, 1) := by decide +kernel
theorem dX12_mend_57 : decode cX12_mend 57 = .ok (.iaload, 1) := by decide +kernel
theorem dX12_mend_58 : decode cX12_mend 58 = .ok (.iastore, 1) := by decide +kernel
theorem dX12_mend_59 : decode cX12_mend 59 = .ok (.iinc 3 1, 3) := by decide +kernel
theorem dX12_mend_62 : decode cX12_mend 62 = .ok (.goto (-36), 3) := by decide +kernel
theorem dX12_mend_65 : decode cX12_mend 65 = .ok (.iload_n 2, 1) := by decide +kernel
theorem dX12_mend_66 : decode cX12_mend 66 = .ok (.ireturn, 1) := by decide +kernel
theorem dX12_isToWash_0 : decode cX12_isToWash 0 = .ok (.aload_n 0, 1) := by decide +kernel
theorem dX12_isToWash_1 : decode cX12_isToWash 1 = .ok (.getfield 44, 3) := by decide +kernel
theorem dX12_isToWash_4 : decode cX12_isToWash 4 = .ok (.iload_n 1, 1) := by decide +kernel
theorem dX12_isToWash_5 : decode cX12_isToWash 5 = .ok (.iaload, 1) := by decide +kernel
theorem dX12_isToWash_6 : decode cX12_isToWash 6 = .ok (.ifCond .ne 16, 3) := by decide +kernel
theorem dX12_isToWash_9 : decode cX12_isToWash 9 = .ok (.aload_n 0, 1) := by decide +kernel
theorem dX12_isToWash_10 : decode cX12_isToWash 10 = .ok (.getfield 62, 3) := by decide +kernel
theorem dX12_isToWash_13 : decode cX12_isToWash 13 = .ok (.iload_n 1, 1) := by decide +kernel
theorem dX12_isToWash_14 : decode cX12_isToWash 14 = .ok (.baload, 1) := by decide +kernel
theorem dX12_isToWash_15 : decode cX12_isToWash 15 = .ok (.ifCond .eq 7, 3) := by decide +kernel
theorem dX12_isToWash_18 : decode cX12_isToWash 18 = .ok (.iconst 1, 1) := by decide +kernel
theorem dX12_isToWash_19 : decode cX12_isToWash 19 = .ok (.goto 4, 3) := by decide +kernel
theorem dX12_isToWash_22 : decode cX12_isToWash 22 = .ok (.iconst 0, 1) := by decide +kernel
theorem dX12_isToWash_23 : decode cX12_isToWash 23 = .ok (.ireturn, 1) := by decide +kernel
theorem dX12_rota_0 : decode cX12_rota 0 = .ok (.iload_n 1, 1) := by decide +kernel
theorem dX12_rota_1 : decode cX12_rota 1 = .ok (.i2l, 1) := by decide +kernel
theorem dX12_rota_2 : decode cX12_rota 2 = .ok (.lconst 1, 1) := by decide +kernel
theorem dX12_rota_3 : decode cX12_rota 3 = .ok (.ldc2_w 226, 3) := by decide +kernel
theorem dX12_rota_6 : decode cX12_rota 6 = .ok (.invokestatic 203, 3) := by decide +kernel
theorem dX12_rota_9 : decode cX12_rota 9 = .ok (.ifCond .eq 19, 3) := by decide +kernel
theorem dX12_rota_12 : decode cX12_rota 12 = .ok (.aload_n 0, 1) := by decide +kernel
theorem dX12_rota_13 : decode cX12_rota 13 = .ok (.iload_n 2, 1) := by decide +kernel
theorem dX12_rota_14 : decode cX12_rota 14 = .ok (.invokevirtual 443, 3) := by decide +kernel
theorem dX12_rota_17 : decode cX12_rota 17 = .ok (.ifCond .eq 11, 3) := by decide +kernel
theorem dX12_rota_20 : decode cX12_rota 20 = .ok (.aload_n 0, 1) := by decide +kernel
theorem dX12_rota_21 : decode cX12_rota 21 = .ok (.iload_n 2, 1) := by decide +kernel
theorem dX12_rota_22 : decode cX12_rota 22 = .ok (.invokevirtual 547, 3) := by decide +kernel
theorem dX12_rota_25 : decode cX12_rota 25 = .ok (.ifCond .ne 5, 3) := by decide +kernel
theorem dX12_rota_28 : decode cX12_rota 28 = .ok (.iconst (-1), 1) := by decide +kernel
theorem dX12_rota_29 : decode cX12_rota 29 = .ok (.ireturn, 1) := by decide +kernel
theorem dX12_rota_30 : decode cX12_rota 30 = .ok (.iconst 0, 1) := by decide +kernel
theorem dX12_rota_31 : decode cX12_rota 31 = .ok (.istore_n 3, 1) := by decide +kernel
theorem dX12_rota_32 : decode cX12_rota 32 = .ok (.aload_n 0, 1) := by decide +kernel
theorem dX12_rota_33 : decode cX12_rota 33 = .ok (.aload_n 0, 1) := by decide +kernel
theorem dX12_rota_34 : decode cX12_rota 34 = .ok (.getfield 35, 3) := by decide +kernel
theorem dX12_rota_37 : decode cX12_rota 37 = .ok (.iload_n 2, 1) := by decide +kernel
theorem dX12_rota_38 : decode cX12_rota 38 = .ok (.iaload, 1) := by decide +kernel
theorem dX12_rota_39 : decode cX12_rota 39 = .ok (.invokevirtual 400, 3) := by decide +kernel
theorem dX12_rota_42 : decode cX12_rota 42 = .ok (.istore 4, 2) := by decide +kernel
theorem dX12_rota_44 : decode cX12_rota 44 = .ok (.iconst 0, 1) := by decide +kernel
theorem dX12_rota_45 : decode cX12_rota 45 = .ok (.istore 5, 2) := by decide +kernel
theorem dX12_rota_47 : decode cX12_rota 47 = .ok (.iload 5, 2) := by decide +kernel
theorem dX12_rota_49 : decode cX12_rota 49 = .ok (.aload_n 0, 1) := by decide +kernel
theorem dX12_rota_50 : decode cX12_rota 50 = .ok (.getfield 211, 3) := by decide +kernel
theorem dX12_rota_53 : decode cX12_rota 53 = .ok (.if_icmp .ge 68, 3) := by decide +kernel
theorem dX12_rota_56 : decode cX12_rota 56 = .ok (.iload 5, 2) := by decide +kernel
theorem dX12_rota_58 : decode cX12_rota 58 = .ok (.iload_n 2, 1) := by decide +kernel
theorem dX12_rota_59 : decode cX12_rota 59 = .ok (.if_icmp .eq 56, 3) := by decide +kernel
theorem dX12_rota_62 : decode cX12_rota 62 = .ok (.aload_n 0, 1) := by decide +kernel
theorem dX12_rota_63 : decode cX12_rota 63 = .ok (.iload 5, 2) := by decide +kernel
theorem dX12_rota_65 : decode cX12_rota 65 = .ok (.invokevirtual 547, 3) := by decide +kernel
theorem dX12_rota_68 : decode cX12_rota 68 = .ok (.ifCond .ne 6, 3) := by decide +kernel
theorem dX12_rota_71 : decode cX12_rota 71 = .ok (.goto 44, 3) := by decide +kernel
theorem dX12_rota_74 : decode cX12_rota 74 = .ok (.aload_n 0, 1) := by decide +kernel
theorem dX12_rota_75 : decode cX12_rota 75 = .ok (.aload_n 0, 1) := by decide +kernel
theorem dX12_rota_76 : decode cX12_rota 76 = .ok (.getfield 35, 3) := by decide +kernel
theorem dX12_rota_79 : decode cX12_rota 79 = .ok (.iload 5, 2) := by decide +kernel
theorem dX12_rota_81 : decode cX12_rota 81 = .ok (.iaload, 1) := by decide +kernel
theorem dX12_rota_82 : decode cX12_rota 82 = .ok (.invokevirtual 400, 3) := by decide +kernel
theorem dX12_rota_85 : decode cX12_rota 85 = .ok (.istore 6, 2) := by decide +kernel
theorem dX12_rota_87 : decode cX12_rota 87 = .ok (.iload_n 3, 1) := by decide +kernel
theorem dX12_rota_88 : decode cX12_rota 88 = .ok (.iload 6, 2) := by decide +kernel
theorem dX12_rota_90 : decode cX12_rota 90 = .ok (.iload 4, 2) := by decide +kernel
theorem dX12_rota_92 : decode cX12_rota 92 = .ok (.if_icmp .gt 16, 3) := by decide +kernel
theorem dX12_rota_95 : decode cX12_rota 95 = .ok (.iload 6, 2) := by decide +kernel
theorem dX12_rota_97 : decode cX12_rota 97 = .ok (.iload 4, 2) := by decide +kernel
theorem dX12_rota_99 : decode cX12_rota 99 = .ok (.if_icmp .ne 13, 3) := by decide +kernel
theorem dX12_rota_102 : decode cX12_rota 102 = .ok (.iload 5, 2) := by decide +kernel
theorem dX12_rota_104 : decode cX12_rota 104 = .ok (.iload_n 2, 1) := by decide +kernel
theorem dX12_rota_105 : decode cX12_rota 105 = .ok (.if_icmp .ge 7, 3) := by decide +kernel
theorem dX12_rota_108 : decode cX12_rota 108 = .ok (.iconst 1, 1) := by decide +kernel
theorem dX12_rota_109 : decode cX12_rota 109 = .ok (.goto 4, 3) := by decide +kernel
theorem dX12_rota_112 : decode cX12_rota 112 = .ok (.iconst 0, 1) := by decide +kernel
theorem dX12_rota_113 : decode cX12_rota 113 = .ok (.iadd, 1) := by decide +kernel
theorem dX12_rota_114 : decode cX12_rota 114 = .ok (.istore_n 3, 1) := by decide +kernel
theorem dX12_rota_115 : decode cX12_rota 115 = .ok (.iinc 5 1, 3) := by decide +kernel
theorem dX12_rota_118 : decode cX12_rota 118 = .ok (.goto (-71), 3) := by decide +kernel
theorem dX12_rota_121 : decode cX12_rota 121 = .ok (.aload_n 0, 1) := by decide +kernel
theorem dX12_rota_122 : decode cX12_rota 122 = .ok (.getfield 219, 3) := by decide +kernel
theorem dX12_rota_125 : decode cX12_rota 125 = .ok (.iload_n 3, 1) := by decide +kernel
theorem dX12_rota_126 : decode cX12_rota 126 = .ok (.iload_n 1, 1) := by decide +kernel
theorem dX12_rota_127 : decode cX12_rota 127 = .ok (.idiv, 1) := by decide +kernel
theorem dX12_rota_128 : decode cX12_rota 128 = .ok (.iadd, 1) := by decide +kernel
theorem dX12_rota_129 : decode cX12_rota 129 = .ok (.ireturn, 1) := by decide +kernel
theorem dX12_owes_0 : decode cX12_owes 0 = .ok (.aload_n 0, 1) := by decide +kernel
theorem dX12_owes_1 : decode cX12_owes 1 = .ok (.iload_n 1, 1) := by decide +kernel
theorem dX12_owes_2 : decode cX12_owes 2 = .ok (.invokevirtual 435, 3) := by decide +kernel
theorem dX12_owes_5 : decode cX12_owes 5 = .ok (.ifCond .eq 12, 3) := by decide +kernel
theorem dX12_owes_8 : decode cX12_owes 8 = .ok (.aload_n 0, 1) := by decide +kernel
theorem dX12_owes_9 : decode cX12_owes 9 = .ok (.getfield 78, 3) := by decide +kernel
theorem dX12_owes_12 : decode cX12_owes 12 = .ok (.iload_n 1, 1) := by decide +kernel
theorem dX12_owes_13 : decode cX12_owes 13 = .ok (.iaload, 1) := by decide +kernel
theorem dX12_owes_14 : decode cX12_owes 14 = .ok (.goto 4, 3) := by decide +kernel
theorem dX12_owes_17 : decode cX12_owes 17 = .ok (.iconst (-1), 1) := by decide +kernel
theorem dX12_owes_18 : decode cX12_owes 18 = .ok (.ireturn, 1) := by decide +kernel
theorem dX12_pays_0 : decode cX12_pays 0 = .ok (.aload_n 0, 1) := by decide +kernel
theorem dX12_pays_1 : decode cX12_pays 1 = .ok (.iload_n 1, 1) := by decide +kernel
theorem dX12_pays_2 : decode cX12_pays 2 = .ok (.invokevirtual 435, 3) := by decide +kernel
theorem dX12_pays_5 : decode cX12_pays 5 = .ok (.ifCond .eq 19, 3) := by decide +kernel
theorem dX12_pays_8 : decode cX12_pays 8 = .ok (.iload_n 2, 1) := by decide +kernel
theorem dX12_pays_9 : decode cX12_pays 9 = .ok (.i2l, 1) := by decide +kernel
theorem dX12_pays_10 : decode cX12_pays 10 = .ok (.lconst 1, 1) := by decide +kernel
theorem dX12_pays_11 : decode cX12_pays 11 = .ok (.aload_n 0, 1) := by decide +kernel
theorem dX12_pays_12 : decode cX12_pays 12 = .ok (.getfield 78, 3) := by decide +kernel
theorem dX12_pays_15 : decode cX12_pays 15 = .ok (.iload_n 1, 1) := by decide +kernel
theorem dX12_pays_16 : decode cX12_pays 16 = .ok (.iaload, 1) := by decide +kernel
theorem dX12_pays_17 : decode cX12_pays 17 = .ok (.i2l, 1) := by decide +kernel
theorem dX12_pays_18 : decode cX12_pays 18 = .ok (.invokestatic 203, 3) := by decide +kernel
theorem dX12_pays_21 : decode cX12_pays 21 = .ok (.ifCond .ne 5, 3) := by decide +kernel
theorem dX12_pays_24 : decode cX12_pays 24 = .ok (.iconst (-1), 1) := by decide +kernel
theorem dX12_pays_25 : decode cX12_pays 25 = .ok (.ireturn, 1) := by decide +kernel
theorem dX12_pays_26 : decode cX12_pays 26 = .ok (.aload_n 0, 1) := by decide +kernel
theorem dX12_pays_27 : decode cX12_pays 27 = .ok (.getfield 78, 3) := by decide +kernel
theorem dX12_pays_30 : decode cX12_pays 30 = .ok (.iload_n 1, 1) := by decide +kernel
theorem dX12_pays_31 : decode cX12_pays 31 = .ok (.dup2, 1) := by decide +kernel
theorem dX12_pays_32 : decode cX12_pays 32 = .ok (.iaload, 1) := by decide +kernel
theorem dX12_pays_33 : decode cX12_pays 33 = .ok (.iload_n 2, 1) := by decide +kernel
theorem dX12_pays_34 : decode cX12_pays 34 = .ok (.isub, 1) := by decide +kernel
theorem dX12_pays_35 : decode cX12_pays 35 = .ok (.iastore, 1) := by decide +kernel
theorem dX12_pays_36 : decode cX12_pays 36 = .ok (.aload_n 0, 1) := by decide +kernel
theorem dX12_pays_37 : decode cX12_pays 37 = .ok (.getfield 78, 3) := by decide +kernel
theorem dX12_pays_40 : decode cX12_pays 40 = .ok (.iload_n 1, 1) := by decide +kernel
theorem dX12_pays_41 : decode cX12_pays 41 = .ok (.iaload, 1) := by decide +kernel
theorem dX12_pays_42 : decode cX12_pays 42 = .ok (.ireturn, 1) := by decide +kernel
theorem dX12_forgiving_0 : decode cX12_forgiving 0 = .ok (.iload_n 1, 1) := by decide +kernel
theorem dX12_forgiving_1 : decode cX12_forgiving 1 = .ok (.i2l, 1) := by decide +kernel
theorem dX12_forgiving_2 : decode cX12_forgiving 2 = .ok (.lconst 0, 1) := by decide +kernel
theorem dX12_forgiving_3 : decode cX12_forgiving 3 = .ok (.ldc2_w 438, 3) := by decide +kernel
theorem dX12_forgiving_6 : decode cX12_forgiving 6 = .ok (.invokestatic 203, 3) := by decide +kernel
theorem dX12_forgiving_9 : decode cX12_forgiving 9 = .ok (.ifCond .ne 5, 3) := by decide +kernel
theorem dX12_forgiving_12 : decode cX12_forgiving 12 = .ok (.iconst (-1), 1) := by decide +kernel
theorem dX12_forgiving_13 : decode cX12_forgiving 13 = .ok (.ireturn, 1) := by decide +kernel
theorem dX12_forgiving_14 : decode cX12_forgiving 14 = .ok (.iconst 0, 1) := by decide +kernel
theorem dX12_forgiving_15 : decode cX12_forgiving 15 = .ok (.istore_n 2, 1) := by decide +kernel
theorem dX12_forgiving_16 : decode cX12_forgiving 16 = .ok (.iconst 0, 1) := by decide +kernel
theorem dX12_forgiving_17 : decode cX12_forgiving 17 = .ok (.istore_n 3, 1) := by decide +kernel
theorem dX12_forgiving_18 : decode cX12_forgiving 18 = .ok (.iload_n 3, 1) := by decide +kernel
theorem dX12_forgiving_19 : decode cX12_forgiving 19 = .ok (.aload_n 0, 1) := by decide +kernel
theorem dX12_forgiving_20 : decode cX12_forgiving 20 = .ok (.getfield 214, 3) := by decide +kernel
theorem dX12_forgiving_23 : decode cX12_forgiving 23 = .ok (.if_icmp .ge 97, 3) := by decide +kernel
theorem dX12_forgiving_26 : decode cX12_forgiving 26 = .ok (.iconst 0, 1) := by decide +kernel
theorem dX12_forgiving_27 : decode cX12_forgiving 27 = .ok (.istore 4, 2) := by decide +kernel
theorem dX12_forgiving_29 : decode cX12_forgiving 29 = .ok (.iconst 0, 1) := by decide +kernel
theorem dX12_forgiving_30 : decode cX12_forgiving 30 = .ok (.istore 5, 2) := by decide +kernel
theorem dX12_forgiving_32 : decode cX12_forgiving 32 = .ok (.iload 5, 2) := by decide +kernel
theorem dX12_forgiving_34 : decode cX12_forgiving 34 = .ok (.aload_n 0, 1) := by decide +kernel
theorem dX12_forgiving_35 : decode cX12_forgiving 35 = .ok (.getfield 449, 3) := by decide +kernel
theorem dX12_forgiving_38 : decode cX12_forgiving 38 = .ok (.if_icmp .ge 76, 3) := by decide +kernel
theorem dX12_forgiving_41 : decode cX12_forgiving 41 = .ok (.aload_n 0, 1) := by decide +kernel
theorem dX12_forgiving_42 : decode cX12_forgiving 42 = .ok (.getfield 171, 3) := by decide +kernel
theorem dX12_forgiving_45 : decode cX12_forgiving 45 = .ok (.iload 5, 2) := by decide +kernel
theorem dX12_forgiving_47 : decode cX12_forgiving 47 = .ok (.baload, 1) := by decide +kernel
theorem dX12_forgiving_48 : decode cX12_forgiving 48 = .ok (.ifCond .eq 60, 3) := by decide +kernel
theorem dX12_forgiving_51 : decode cX12_forgiving 51 = .ok (.aload_n 0, 1) := by decide +kernel
theorem dX12_forgiving_52 : decode cX12_forgiving 52 = .ok (.getfield 165, 3) := by decide +kernel
theorem dX12_forgiving_55 : decode cX12_forgiving 55 = .ok (.iload 5, 2) := by decide +kernel
theorem dX12_forgiving_57 : decode cX12_forgiving 57 = .ok (.iaload, 1) := by decide +kernel
theorem dX12_forgiving_58 : decode cX12_forgiving 58 = .ok (.iload_n 3, 1) := by decide +kernel
theorem dX12_forgiving_59 : decode cX12_forgiving 59 = .ok (.if_icmp .eq 6, 3) := by decide +kernel
theorem dX12_forgiving_62 : decode cX12_forgiving 62 = .ok (.goto 46, 3) := by decide +kernel
theorem dX12_forgiving_65 : decode cX12_forgiving 65 = .ok (.iload 4, 2) := by decide +kernel
theorem dX12_forgiving_67 : decode cX12_forgiving 67 = .ok (.iconst 1, 1) := by decide +kernel
theorem dX12_forgiving_68 : decode cX12_forgiving 68 = .ok (.iload_n 1, 1) := by decide +kernel
theorem dX12_forgiving_69 : decode cX12_forgiving 69 = .ok (.iconst 2, 1) := by decide +kernel
theorem dX12_forgiving_70 : decode cX12_forgiving 70 = .ok (.idiv, 1) := by decide +kernel
theorem dX12_forgiving_71 : decode cX12_forgiving 71 = .ok (.iadd, 1) := by decide +kernel
theorem dX12_forgiving_72 : decode cX12_forgiving 72 = .ok (.if_icmp .ne 27, 3) := by decide +kernel
theorem dX12_forgiving_75 : decode cX12_forgiving 75 = .ok (.iload_n 2, 1) := by decide +kernel
theorem dX12_forgiving_76 : decode cX12_forgiving 76 = .ok (.iload_n 1, 1) := by decide +kernel
theorem dX12_forgiving_77 : decode cX12_forgiving 77 = .ok (.iconst 2, 1) := by decide +kernel
theorem dX12_forgiving_78 : decode cX12_forgiving 78 = .ok (.irem, 1) := by decide +kernel
theorem dX12_forgiving_79 : decode cX12_forgiving 79 = .ok (.ifCond .eq 13, 3) := by decide +kernel
theorem dX12_forgiving_82 : decode cX12_forgiving 82 = .ok (.aload_n 0, 1) := by decide +kernel
theorem dX12_forgiving_83 : decode cX12_forgiving 83 = .ok (.getfield 174, 3) := by decide +kernel
theorem dX12_forgiving_86 : decode cX12_forgiving 86 = .ok (.iload 5, 2) := by decide +kernel
theorem dX12_forgiving_88 : decode cX12_forgiving 88 = .ok (.baload, 1) := by decide +kernel
theorem dX12_forgiving_89 : decode cX12_forgiving 89 = .ok (.ifCond .eq 7, 3) := by decide +kernel
theorem dX12_forgiving_92 : decode cX12_forgiving 92 = .ok (.iconst 1, 1) := by decide +kernel
theorem dX12_forgiving_93 : decode cX12_forgiving 93 = .ok (.goto 4, 3) := by decide +kernel
theorem dX12_forgiving_96 : decode cX12_forgiving 96 = .ok (.iconst 0, 1) := by decide +kernel
theorem dX12_forgiving_97 : decode cX12_forgiving 97 = .ok (.iadd, 1) := by decide +kernel
theorem dX12_forgiving_98 : decode cX12_forgiving 98 = .ok (.istore_n 2, 1) := by decide +kernel
theorem dX12_forgiving_99 : decode cX12_forgiving 99 = .ok (.aload_n 0, 1) := by decide +kernel
theorem dX12_forgiving_100 : decode cX12_forgiving 100 = .ok (.getfield 168, 3) := by decide +kernel
theorem dX12_forgiving_103 : decode cX12_forgiving 103 = .ok (.iload 5, 2) := by decide +kernel
theorem dX12_forgiving_105 : decode cX12_forgiving 105 = .ok (.iaload, 1) := by decide +kernel
theorem dX12_forgiving_106 : decode cX12_forgiving 106 = .ok (.istore 4, 2) := by decide +kernel
theorem dX12_forgiving_108 : decode cX12_forgiving 108 = .ok (.iinc 5 1, 3) := by decide +kernel
theorem dX12_forgiving_111 : decode cX12_forgiving 111 = .ok (.goto (-79), 3) := by decide +kernel
theorem dX12_forgiving_114 : decode cX12_forgiving 114 = .ok (.iinc 3 1, 3) := by decide +kernel
theorem dX12_forgiving_117 : decode cX12_forgiving 117 = .ok (.goto (-99), 3) := by decide +kernel
theorem dX12_forgiving_120 : decode cX12_forgiving 120 = .ok (.iload_n 2, 1) := by decide +kernel
theorem dX12_forgiving_121 : decode cX12_forgiving 121 = .ok (.ireturn, 1) := by decide +kernel
theorem dX12_peak_0 : decode cX12_peak 0 = .ok (.iload_n 1, 1) := by decide +kernel
theorem dX12_peak_1 : decode cX12_peak 1 = .ok (.i2l, 1) := by decide +kernel
theorem dX12_peak_2 : decode cX12_peak 2 = .ok (.lconst 0, 1) := by decide +kernel
theorem dX12_peak_3 : decode cX12_peak 3 = .ok (.lconst 1, 1) := by decide +kernel
theorem dX12_peak_4 : decode cX12_peak 4 = .ok (.invokestatic 203, 3) := by decide +kernel
theorem dX12_peak_7 : decode cX12_peak 7 = .ok (.ifCond .ne 5, 3) := by decide +kernel
theorem dX12_peak_10 : decode cX12_peak 10 = .ok (.iconst (-1), 1) := by decide +kernel
theorem dX12_peak_11 : decode cX12_peak 11 = .ok (.ireturn, 1) := by decide +kernel
theorem dX12_peak_12 : decode cX12_peak 12 = .ok (.iconst 0, 1) := by decide +kernel
theorem dX12_peak_13 : decode cX12_peak 13 = .ok (.istore_n 2, 1) := by decide +kernel
theorem dX12_peak_14 : decode cX12_peak 14 = .ok (.iconst (-1), 1) := by decide +kernel
theorem dX12_peak_15 : decode cX12_peak 15 = .ok (.istore_n 3, 1) := by decide +kernel
theorem dX12_peak_16 : decode cX12_peak 16 = .ok (.iconst 0, 1) := by decide +kernel
theorem dX12_peak_17 : decode cX12_peak 17 = .ok (.istore 4, 2) := by decide +kernel
theorem dX12_peak_19 : decode cX12_peak 19 = .ok (.iload 4, 2) := by decide +kernel
theorem dX12_peak_21 : decode cX12_peak 21 = .ok (.bipush 53, 2) := by decide +kernel
theorem dX12_peak_23 : decode cX12_peak 23 = .ok (.if_icmp .ge 59, 3) := by decide +kernel
theorem dX12_peak_26 : decode cX12_peak 26 = .ok (.aload_n 0, 1) := by decide +kernel
theorem dX12_peak_27 : decode cX12_peak 27 = .ok (.getfield 186, 3) := by decide +kernel
theorem dX12_peak_30 : decode cX12_peak 30 = .ok (.iload 4, 2) := by decide +kernel
theorem dX12_peak_32 : decode cX12_peak 32 = .ok (.iaload, 1) := by decide +kernel
theorem dX12_peak_33 : decode cX12_peak 33 = .ok (.aload_n 0, 1) := by decide +kernel
theorem dX12_peak_34 : decode cX12_peak 34 = .ok (.getfield 186, 3) := by decide +kernel
theorem dX12_peak_37 : decode cX12_peak 37 = .ok (.iload 4, 2) := by decide +kernel
theorem dX12_peak_39 : decode cX12_peak 39 = .ok (.iconst 1, 1) := by decide +kernel
theorem dX12_peak_40 : decode cX12_peak 40 = .ok (.iadd, 1) := by decide +kernel
theorem dX12_peak_41 : decode cX12_peak 41 = .ok (.bipush 53, 2) := by decide +kernel
theorem dX12_peak_43 : decode cX12_peak 43 = .ok (.irem, 1) := by decide +kernel
theorem dX12_peak_44 : decode cX12_peak 44 = .ok (.iaload, 1) := by decide +kernel
theorem dX12_peak_45 : decode cX12_peak 45 = .ok (.iadd, 1) := by decide +kernel
theorem dX12_peak_46 : decode cX12_peak 46 = .ok (.aload_n 0, 1) := by decide +kernel
theorem dX12_peak_47 : decode cX12_peak 47 = .ok (.getfield 186, 3) := by decide +kernel
theorem dX12_peak_50 : decode cX12_peak 50 = .ok (.iload 4, 2) := by decide +kernel
theorem dX12_peak_52 : decode cX12_peak 52 = .ok (.iconst 2, 1) := by decide +kernel
theorem dX12_peak_53 : decode cX12_peak 53 = .ok (.iadd, 1) := by decide +kernel
theorem dX12_peak_54 : decode cX12_peak 54 = .ok (.bipush 53, 2) := by decide +kernel
theorem dX12_peak_56 : decode cX12_peak 56 = .ok (.irem, 1) := by decide +kernel
theorem dX12_peak_57 : decode cX12_peak 57 = .ok (.iaload, 1) := by decide +kernel
theorem dX12_peak_58 : decode cX12_peak 58 = .ok (.iadd, 1) := by decide +kernel
theorem dX12_peak_59 : decode cX12_peak 59 = .ok (.istore 5, 2) := by decide +kernel
theorem dX12_peak_61 : decode cX12_peak 61 = .ok (.iload 5, 2) := by decide +kernel
theorem dX12_peak_63 : decode cX12_peak 63 = .ok (.iload_n 3, 1) := by decide +kernel
theorem dX12_peak_64 : decode cX12_peak 64 = .ok (.if_icmp .gt 6, 3) := by decide +kernel
theorem dX12_peak_67 : decode cX12_peak 67 = .ok (.goto 9, 3) := by decide +kernel
theorem dX12_peak_70 : decode cX12_peak 70 = .ok (.iload 4, 2) := by decide +kernel
theorem dX12_peak_72 : decode cX12_peak 72 = .ok (.istore_n 2, 1) := by decide +kernel
theorem dX12_peak_73 : decode cX12_peak 73 = .ok (.iload 5, 2) := by decide +kernel
theorem dX12_peak_75 : decode cX12_peak 75 = .ok (.istore_n 3, 1) := by decide +kernel
theorem dX12_peak_76 : decode cX12_peak 76 = .ok (.iinc 4 1, 3) := by decide +kernel
theorem dX12_peak_79 : decode cX12_peak 79 = .ok (.goto (-60), 3) := by decide +kernel
theorem dX12_peak_82 : decode cX12_peak 82 = .ok (.iload_n 1, 1) := by decide +kernel
theorem dX12_peak_83 : decode cX12_peak 83 = .ok (.ifCond .ne 7, 3) := by decide +kernel
theorem dX12_peak_86 : decode cX12_peak 86 = .ok (.iload_n 2, 1) := by decide +kernel
theorem dX12_peak_87 : decode cX12_peak 87 = .ok (.goto 4, 3) := by decide +kernel
theorem dX12_peak_90 : decode cX12_peak 90 = .ok (.iload_n 3, 1) := by decide +kernel
theorem dX12_peak_91 : decode cX12_peak 91 = .ok (.ireturn, 1) := by decide +kernel
theorem dX12_isTooOld_0 : decode cX12_isTooOld 0 = .ok (.iconst 0, 1) := by decide +kernel
theorem dX12_isTooOld_1 : decode cX12_isTooOld 1 = .ok (.istore_n 2, 1) := by decide +kernel
theorem dX12_isTooOld_2 : decode cX12_isTooOld 2 = .ok (.iload_n 2, 1) := by decide +kernel
theorem dX12_isTooOld_3 : decode cX12_isTooOld 3 = .ok (.aload_n 0, 1) := by decide +kernel
theorem dX12_isTooOld_4 : decode cX12_isTooOld 4 = .ok (.getfield 214, 3) := by decide +kernel
theorem dX12_isTooOld_7 : decode cX12_isTooOld 7 = .ok (.if_icmp .ge 31, 3) := by decide +kernel
theorem dX12_isTooOld_10 : decode cX12_isTooOld 10 = .ok (.aload_n 0, 1) := by decide +kernel
theorem dX12_isTooOld_11 : decode cX12_isTooOld 11 = .ok (.getfield 13, 3) := by decide +kernel
theorem dX12_isTooOld_14 : decode cX12_isTooOld 14 = .ok (.aload_n 0, 1) := by decide +kernel
theorem dX12_isTooOld_15 : decode cX12_isTooOld 15 = .ok (.getfield 35, 3) := by decide +kernel
theorem dX12_isTooOld_18 : decode cX12_isTooOld 18 = .ok (.iload_n 1, 1) := by decide +kernel
theorem dX12_isTooOld_19 : decode cX12_isTooOld 19 = .ok (.iaload, 1) := by decide +kernel
theorem dX12_isTooOld_20 : decode cX12_isTooOld 20 = .ok (.iaload, 1) := by decide +kernel
theorem dX12_isTooOld_21 : decode cX12_isTooOld 21 = .ok (.aload_n 0, 1) := by decide +kernel
theorem dX12_isTooOld_22 : decode cX12_isTooOld 22 = .ok (.getfield 69, 3) := by decide +kernel
theorem dX12_isTooOld_25 : decode cX12_isTooOld 25 = .ok (.iload_n 2, 1) := by decide +kernel
theorem dX12_isTooOld_26 : decode cX12_isTooOld 26 = .ok (.iaload, 1) := by decide +kernel
theorem dX12_isTooOld_27 : decode cX12_isTooOld 27 = .ok (.if_icmp .gt 5, 3) := by decide +kernel
theorem dX12_isTooOld_30 : decode cX12_isTooOld 30 = .ok (.iconst 0, 1) := by decide +kernel
theorem dX12_isTooOld_31 : decode cX12_isTooOld 31 = .ok (.ireturn, 1) := by decide +kernel
theorem dX12_isTooOld_32 : decode cX12_isTooOld 32 = .ok (.iinc 2 1, 3) := by decide +kernel
theorem dX12_isTooOld_35 : decode cX12_isTooOld 35 = .ok (.goto (-33), 3) := by decide +kernel
theorem dX12_isTooOld_38 : decode cX12_isTooOld 38 = .ok (.aload_n 0, 1) := by decide +kernel
theorem dX12_isTooOld_39 : decode cX12_isTooOld 39 = .ok (.getfield 214, 3) := by decide +kernel
theorem dX12_isTooOld_42 : decode cX12_isTooOld 42 = .ok (.ifCond .le 7, 3) := by decide +kernel
theorem dX12_isTooOld_45 : decode cX12_isTooOld 45 = .ok (.iconst 1, 1) := by decide +kernel
theorem dX12_isTooOld_46 : decode cX12_isTooOld 46 = .ok (.goto 4, 3) := by decide +kernel
theorem dX12_isTooOld_49 : decode cX12_isTooOld 49 = .ok (.iconst 0, 1) := by decide +kernel
theorem dX12_isTooOld_50 : decode cX12_isTooOld 50 = .ok (.ireturn, 1) := by decide +kernel
theorem dX12_isBarredForAll_0 : decode cX12_isBarredForAll 0 = .ok (.iconst 0, 1) := by decide +kernel
theorem dX12_isBarredForAll_1 : decode cX12_isBarredForAll 1 = .ok (.istore_n 2, 1) := by decide +kernel
theorem dX12_isBarredForAll_2 : decode cX12_isBarredForAll 2 = .ok (.iload_n 2, 1) := by decide +kernel
theorem dX12_isBarredForAll_3 : decode cX12_isBarredForAll 3 = .ok (.aload_n 0, 1) := by decide +kernel
theorem dX12_isBarredForAll_4 : decode cX12_isBarredForAll 4 = .ok (.getfield 214, 3) := by decide +kernel
theorem dX12_isBarredForAll_7 : decode cX12_isBarredForAll 7 = .ok (.if_icmp .ge 20, 3) := by decide +kernel
theorem dX12_isBarredForAll_10 : decode cX12_isBarredForAll 10 = .ok (.aload_n 0, 1) := by decide +kernel
theorem dX12_isBarredForAll_11 : decode cX12_isBarredForAll 11 = .ok (.iload_n 1, 1) := by decide +kernel
theorem dX12_isBarredForAll_12 : decode cX12_isBarredForAll 12 = .ok (.iload_n 2, 1) := by decide +kernel
theorem dX12_isBarredForAll_13 : decode cX12_isBarredForAll 13 = .ok (.invokevirtual 455, 3) := by decide +kernel
theorem dX12_isBarredForAll_16 : decode cX12_isBarredForAll 16 = .ok (.ifCond .ne 5, 3) := by decide +kernel
theorem dX12_isBarredForAll_19 : decode cX12_isBarredForAll 19 = .ok (.iconst 0, 1) := by decide +kernel
theorem dX12_isBarredForAll_20 : decode cX12_isBarredForAll 20 = .ok (.ireturn, 1) := by decide +kernel
theorem dX12_isBarredForAll_21 : decode cX12_isBarredForAll 21 = .ok (.iinc 2 1, 3) := by decide +kernel
theorem dX12_isBarredForAll_24 : decode cX12_isBarredForAll 24 = .ok (.goto (-22), 3) := by decide +kernel
theorem dX12_isBarredForAll_27 : decode cX12_isBarredForAll 27 = .ok (.aload_n 0, 1) := by decide +kernel
theorem dX12_isBarredForAll_28 : decode cX12_isBarredForAll 28 = .ok (.getfield 214, 3) := by decide +kernel
theorem dX12_isBarredForAll_31 : decode cX12_isBarredForAll 31 = .ok (.ifCond .le 7, 3) := by decide +kernel
theorem dX12_isBarredForAll_34 : decode cX12_isBarredForAll 34 = .ok (.iconst 1, 1) := by decide +kernel
theorem dX12_isBarredForAll_35 : decode cX12_isBarredForAll 35 = .ok (.goto 4, 3) := by decide +kernel
theorem dX12_isBarredForAll_38 : decode cX12_isBarredForAll 38 = .ok (.iconst 0, 1) := by decide +kernel
theorem dX12_isBarredForAll_39 : decode cX12_isBarredForAll 39 = .ok (.ireturn, 1) := by decide +kernel
theorem dX12_whyOf_0 : decode cX12_whyOf 0 = .ok (.aload_n 0, 1) := by decide +kernel
theorem dX12_whyOf_1 : decode cX12_whyOf 1 = .ok (.getfield 44, 3) := by decide +kernel
theorem dX12_whyOf_4 : decode cX12_whyOf 4 = .ok (.iload_n 1, 1) := by decide +kernel
theorem dX12_whyOf_5 : decode cX12_whyOf 5 = .ok (.iaload, 1) := by decide +kernel
theorem dX12_whyOf_6 : decode cX12_whyOf 6 = .ok (.ifCond .ne 31, 3) := by decide +kernel
theorem dX12_whyOf_9 : decode cX12_whyOf 9 = .ok (.aload_n 0, 1) := by decide +kernel
theorem dX12_whyOf_10 : decode cX12_whyOf 10 = .ok (.getfield 59, 3) := by decide +kernel
theorem dX12_whyOf_13 : decode cX12_whyOf 13 = .ok (.iload_n 1, 1) := by decide +kernel
theorem dX12_whyOf_14 : decode cX12_whyOf 14 = .ok (.iaload, 1) := by decide +kernel
theorem dX12_whyOf_15 : decode cX12_whyOf 15 = .ok (.aload_n 0, 1) := by decide +kernel
theorem dX12_whyOf_16 : decode cX12_whyOf 16 = .ok (.getfield 219, 3) := by decide +kernel
theorem dX12_whyOf_19 : decode cX12_whyOf 19 = .ok (.iload_n 2, 1) := by decide +kernel
theorem dX12_whyOf_20 : decode cX12_whyOf 20 = .ok (.isub, 1) := by decide +kernel
theorem dX12_whyOf_21 : decode cX12_whyOf 21 = .ok (.if_icmp .gt 16, 3) := by decide +kernel
theorem dX12_whyOf_24 : decode cX12_whyOf 24 = .ok (.aload_n 0, 1) := by decide +kernel
theorem dX12_whyOf_25 : decode cX12_whyOf 25 = .ok (.aload_n 0, 1) := by decide +kernel
theorem dX12_whyOf_26 : decode cX12_whyOf 26 = .ok (.getfield 35, 3) := by decide +kernel
theorem dX12_whyOf_29 : decode cX12_whyOf 29 = .ok (.iload_n 1, 1) := by decide +kernel
theorem dX12_whyOf_30 : decode cX12_whyOf 30 = .ok (.iaload, 1) := by decide +kernel
theorem dX12_whyOf_31 : decode cX12_whyOf 31 = .ok (.invokevirtual 400, 3) := by decide +kernel
theorem dX12_whyOf_34 : decode cX12_whyOf 34 = .ok (.ifCond .le 5, 3) := by decide +kernel
theorem dX12_whyOf_37 : decode cX12_whyOf 37 = .ok (.iconst 0, 1) := by decide +kernel
theorem dX12_whyOf_38 : decode cX12_whyOf 38 = .ok (.ireturn, 1) := by decide +kernel
theorem dX12_whyOf_39 : decode cX12_whyOf 39 = .ok (.aload_n 0, 1) := by decide +kernel
theorem dX12_whyOf_40 : decode cX12_whyOf 40 = .ok (.iload_n 1, 1) := by decide +kernel
theorem dX12_whyOf_41 : decode cX12_whyOf 41 = .ok (.invokevirtual 452, 3) := by decide +kernel
theorem dX12_whyOf_44 : decode cX12_whyOf 44 = .ok (.ifCond .eq 5, 3) := by decide +kernel
theorem dX12_whyOf_47 : decode cX12_whyOf 47 = .ok (.iconst 1, 1) := by decide +kernel
theorem dX12_whyOf_48 : decode cX12_whyOf 48 = .ok (.ireturn, 1) := by decide +kernel
theorem dX12_whyOf_49 : decode cX12_whyOf 49 = .ok (.aload_n 0, 1) := by decide +kernel
theorem dX12_whyOf_50 : decode cX12_whyOf 50 = .ok (.getfield 62, 3) := by decide +kernel
theorem dX12_whyOf_53 : decode cX12_whyOf 53 = .ok (.iload_n 1, 1) := by decide +kernel
theorem dX12_whyOf_54 : decode cX12_whyOf 54 = .ok (.baload, 1) := by decide +kernel
theorem dX12_whyOf_55 : decode cX12_whyOf 55 = .ok (.ifCond .eq 5, 3) := by decide +kernel
theorem dX12_whyOf_58 : decode cX12_whyOf 58 = .ok (.iconst 2, 1) := by decide +kernel
theorem dX12_whyOf_59 : decode cX12_whyOf 59 = .ok (.ireturn, 1) := by decide +kernel
theorem dX12_whyOf_60 : decode cX12_whyOf 60 = .ok (.aload_n 0, 1) := by decide +kernel
theorem dX12_whyOf_61 : decode cX12_whyOf 61 = .ok (.iload_n 1, 1) := by decide +kernel
theorem dX12_whyOf_62 : decode cX12_whyOf 62 = .ok (.invokevirtual 390, 3) := by decide +kernel
theorem dX12_whyOf_65 : decode cX12_whyOf 65 = .ok (.ifCond .le 5, 3) := by decide +kernel
theorem dX12_whyOf_68 : decode cX12_whyOf 68 = .ok (.iconst 3, 1) := by decide +kernel
theorem dX12_whyOf_69 : decode cX12_whyOf 69 = .ok (.ireturn, 1) := by decide +kernel
theorem dX12_whyOf_70 : decode cX12_whyOf 70 = .ok (.aload_n 0, 1) := by decide +kernel
theorem dX12_whyOf_71 : decode cX12_whyOf 71 = .ok (.getfield 41, 3) := by decide +kernel
theorem dX12_whyOf_74 : decode cX12_whyOf 74 = .ok (.iload_n 1, 1) := by decide +kernel
theorem dX12_whyOf_75 : decode cX12_whyOf 75 = .ok (.iaload, 1) := by decide +kernel
theorem dX12_whyOf_76 : decode cX12_whyOf 76 = .ok (.aload_n 0, 1) := by decide +kernel
theorem dX12_whyOf_77 : decode cX12_whyOf 77 = .ok (.getfield 26, 3) := by decide +kernel
theorem dX12_whyOf_80 : decode cX12_whyOf 80 = .ok (.aload_n 0, 1) := by decide +kernel
theorem dX12_whyOf_81 : decode cX12_whyOf 81 = .ok (.getfield 35, 3) := by decide +kernel
theorem dX12_whyOf_84 : decode cX12_whyOf 84 = .ok (.iload_n 1, 1) := by decide +kernel
theorem dX12_whyOf_85 : decode cX12_whyOf 85 = .ok (.iaload, 1) := by decide +kernel
theorem dX12_whyOf_86 : decode cX12_whyOf 86 = .ok (.iaload, 1) := by decide +kernel
theorem dX12_whyOf_87 : decode cX12_whyOf 87 = .ok (.if_icmp .lt 5, 3) := by decide +kernel
theorem dX12_whyOf_90 : decode cX12_whyOf 90 = .ok (.iconst 4, 1) := by decide +kernel
theorem dX12_whyOf_91 : decode cX12_whyOf 91 = .ok (.ireturn, 1) := by decide +kernel
theorem dX12_whyOf_92 : decode cX12_whyOf 92 = .ok (.aload_n 0, 1) := by decide +kernel
theorem dX12_whyOf_93 : decode cX12_whyOf 93 = .ok (.getfield 20, 3) := by decide +kernel
theorem dX12_whyOf_96 : decode cX12_whyOf 96 = .ok (.aload_n 0, 1) := by decide +kernel
theorem dX12_whyOf_97 : decode cX12_whyOf 97 = .ok (.getfield 35, 3) := by decide +kernel
theorem dX12_whyOf_100 : decode cX12_whyOf 100 = .ok (.iload_n 1, 1) := by decide +kernel
theorem dX12_whyOf_101 : decode cX12_whyOf 101 = .ok (.iaload, 1) := by decide +kernel
theorem dX12_whyOf_102 : decode cX12_whyOf 102 = .ok (.iaload, 1) := by decide +kernel
theorem dX12_whyOf_103 : decode cX12_whyOf 103 = .ok (.bipush 7, 2) := by decide +kernel
theorem dX12_whyOf_105 : decode cX12_whyOf 105 = .ok (.if_icmp .lt 5, 3) := by decide +kernel
theorem dX12_whyOf_108 : decode cX12_whyOf 108 = .ok (.iconst 5, 1) := by decide +kernel
theorem dX12_whyOf_109 : decode cX12_whyOf 109 = .ok (.ireturn, 1) := by decide +kernel
theorem dX12_whyOf_110 : decode cX12_whyOf 110 = .ok (.aload_n 0, 1) := by decide +kernel
theorem dX12_whyOf_111 : decode cX12_whyOf 111 = .ok (.iload_n 1, 1) := by decide +kernel
theorem dX12_whyOf_112 : decode cX12_whyOf 112 = .ok (.invokevirtual 550, 3) := by decide +kernel
theorem dX12_whyOf_115 : decode cX12_whyOf 115 = .ok (.ifCond .eq 8, 3) := by decide +kernel
theorem dX12_whyOf_118 : decode cX12_whyOf 118 = .ok (.bipush 6, 2) := by decide +kernel
theorem dX12_whyOf_120 : decode cX12_whyOf 120 = .ok (.goto 18, 3) := by decide +kernel
theorem dX12_whyOf_123 : decode cX12_whyOf 123 = .ok (.aload_n 0, 1) := by decide +kernel
theorem dX12_whyOf_124 : decode cX12_whyOf 124 = .ok (.iload_n 1, 1) := by decide +kernel
theorem dX12_whyOf_125 : decode cX12_whyOf 125 = .ok (.invokevirtual 553, 3) := by decide +kernel
theorem dX12_whyOf_128 : decode cX12_whyOf 128 = .ok (.ifCond .eq 8, 3) := by decide +kernel
theorem dX12_whyOf_131 : decode cX12_whyOf 131 = .ok (.bipush 7, 2) := by decide +kernel
theorem dX12_whyOf_133 : decode cX12_whyOf 133 = .ok (.goto 5, 3) := by decide +kernel
theorem dX12_whyOf_136 : decode cX12_whyOf 136 = .ok (.bipush 8, 2) := by decide +kernel
theorem dX12_whyOf_138 : decode cX12_whyOf 138 = .ok (.ireturn, 1) := by decide +kernel
theorem dX12_unwanted_0 : decode cX12_unwanted 0 = .ok (.iload_n 1, 1) := by decide +kernel
theorem dX12_unwanted_1 : decode cX12_unwanted 1 = .ok (.i2l, 1) := by decide +kernel
theorem dX12_unwanted_2 : decode cX12_unwanted 2 = .ok (.lconst 1, 1) := by decide +kernel
theorem dX12_unwanted_3 : decode cX12_unwanted 3 = .ok (.ldc2_w 556, 3) := by decide +kernel
theorem dX12_unwanted_6 : decode cX12_unwanted 6 = .ok (.invokestatic 203, 3) := by decide +kernel
theorem dX12_unwanted_9 : decode cX12_unwanted 9 = .ok (.ifCond .ne 5, 3) := by decide +kernel
theorem dX12_unwanted_12 : decode cX12_unwanted 12 = .ok (.iconst (-1), 1) := by decide +kernel
theorem dX12_unwanted_13 : decode cX12_unwanted 13 = .ok (.ireturn, 1) := by decide +kernel
theorem dX12_unwanted_14 : decode cX12_unwanted 14 = .ok (.iconst 0, 1) := by decide +kernel
theorem dX12_unwanted_15 : decode cX12_unwanted 15 = .ok (.istore_n 2, 1) := by decide +kernel
theorem dX12_unwanted_16 : decode cX12_unwanted 16 = .ok (.iconst 0, 1) := by decide +kernel
theorem dX12_unwanted_17 : decode cX12_unwanted 17 = .ok (.istore_n 3, 1) := by decide +kernel
theorem dX12_unwanted_18 : decode cX12_unwanted 18 = .ok (.iload_n 3, 1) := by decide +kernel
theorem dX12_unwanted_19 : decode cX12_unwanted 19 = .ok (.aload_n 0, 1) := by decide +kernel
theorem dX12_unwanted_20 : decode cX12_unwanted 20 = .ok (.getfield 211, 3) := by decide +kernel
theorem dX12_unwanted_23 : decode cX12_unwanted 23 = .ok (.if_icmp .ge 28, 3) := by decide +kernel
theorem dX12_unwanted_26 : decode cX12_unwanted 26 = .ok (.iload_n 2, 1) := by decide +kernel
theorem dX12_unwanted_27 : decode cX12_unwanted 27 = .ok (.aload_n 0, 1) := by decide +kernel
theorem dX12_unwanted_28 : decode cX12_unwanted 28 = .ok (.iload_n 3, 1) := by decide +kernel
theorem dX12_unwanted_29 : decode cX12_unwanted 29 = .ok (.iload_n 1, 1) := by decide +kernel
theorem dX12_unwanted_30 : decode cX12_unwanted 30 = .ok (.invokevirtual 558, 3) := by decide +kernel
theorem dX12_unwanted_33 : decode cX12_unwanted 33 = .ok (.ifCond .le 9, 3) := by decide +kernel
theorem dX12_unwanted_36 : decode cX12_unwanted 36 = .ok (.iconst 1, 1) := by decide +kernel
theorem dX12_unwanted_37 : decode cX12_unwanted 37 = .ok (.iload_n 3, 1) := by decide +kernel
theorem dX12_unwanted_38 : decode cX12_unwanted 38 = .ok (.ishl, 1) := by decide +kernel
theorem dX12_unwanted_39 : decode cX12_unwanted 39 = .ok (.goto 4, 3) := by decide +kernel
theorem dX12_unwanted_42 : decode cX12_unwanted 42 = .ok (.iconst 0, 1) := by decide +kernel
theorem dX12_unwanted_43 : decode cX12_unwanted 43 = .ok (.ior, 1) := by decide +kernel
theorem dX12_unwanted_44 : decode cX12_unwanted 44 = .ok (.istore_n 2, 1) := by decide +kernel
theorem dX12_unwanted_45 : decode cX12_unwanted 45 = .ok (.iinc 3 1, 3) := by decide +kernel
theorem dX12_unwanted_48 : decode cX12_unwanted 48 = .ok (.goto (-30), 3) := by decide +kernel
theorem dX12_unwanted_51 : decode cX12_unwanted 51 = .ok (.iload_n 2, 1) := by decide +kernel
theorem dX12_unwanted_52 : decode cX12_unwanted 52 = .ok (.ireturn, 1) := by decide +kernel
theorem dX12_why_0 : decode cX12_why 0 = .ok (.aload_n 0, 1) := by decide +kernel
theorem dX12_why_1 : decode cX12_why 1 = .ok (.iload_n 1, 1) := by decide +kernel
theorem dX12_why_2 : decode cX12_why 2 = .ok (.invokevirtual 443, 3) := by decide +kernel
theorem dX12_why_5 : decode cX12_why 5 = .ok (.ifCond .eq 24, 3) := by decide +kernel
theorem dX12_why_8 : decode cX12_why 8 = .ok (.iload_n 2, 1) := by decide +kernel
theorem dX12_why_9 : decode cX12_why 9 = .ok (.i2l, 1) := by decide +kernel
theorem dX12_why_10 : decode cX12_why 10 = .ok (.lconst 1, 1) := by decide +kernel
theorem dX12_why_11 : decode cX12_why 11 = .ok (.ldc2_w 556, 3) := by decide +kernel
theorem dX12_why_14 : decode cX12_why 14 = .ok (.invokestatic 203, 3) := by decide +kernel
theorem dX12_why_17 : decode cX12_why 17 = .ok (.ifCond .eq 12, 3) := by decide +kernel
theorem dX12_why_20 : decode cX12_why 20 = .ok (.aload_n 0, 1) := by decide +kernel
theorem dX12_why_21 : decode cX12_why 21 = .ok (.iload_n 1, 1) := by decide +kernel
theorem dX12_why_22 : decode cX12_why 22 = .ok (.iload_n 2, 1) := by decide +kernel
theorem dX12_why_23 : decode cX12_why 23 = .ok (.invokevirtual 558, 3) := by decide +kernel
theorem dX12_why_26 : decode cX12_why 26 = .ok (.goto 4, 3) := by decide +kernel
theorem dX12_why_29 : decode cX12_why 29 = .ok (.iconst (-1), 1) := by decide +kernel
theorem dX12_why_30 : decode cX12_why 30 = .ok (.ireturn, 1) := by decide +kernel
theorem dX12_cull_0 : decode cX12_cull 0 = .ok (.aload_n 0, 1) := by decide +kernel
theorem dX12_cull_1 : decode cX12_cull 1 = .ok (.iload_n 1, 1) := by decide +kernel
theorem dX12_cull_2 : decode cX12_cull 2 = .ok (.invokevirtual 443, 3) := by decide +kernel
theorem dX12_cull_5 : decode cX12_cull 5 = .ok (.ifCond .eq 12, 3) := by decide +kernel
theorem dX12_cull_8 : decode cX12_cull 8 = .ok (.aload_n 0, 1) := by decide +kernel
theorem dX12_cull_9 : decode cX12_cull 9 = .ok (.getfield 44, 3) := by decide +kernel
theorem dX12_cull_12 : decode cX12_cull 12 = .ok (.iload_n 1, 1) := by decide +kernel
theorem dX12_cull_13 : decode cX12_cull 13 = .ok (.iaload, 1) := by decide +kernel
theorem dX12_cull_14 : decode cX12_cull 14 = .ok (.ifCond .eq 5, 3) := by decide +kernel
theorem dX12_cull_17 : decode cX12_cull 17 = .ok (.iconst 0, 1) := by decide +kernel
theorem dX12_cull_18 : decode cX12_cull 18 = .ok (.ireturn, 1) := by decide +kernel
theorem dX12_cull_19 : decode cX12_cull 19 = .ok (.aload_n 0, 1) := by decide +kernel
theorem dX12_cull_20 : decode cX12_cull 20 = .ok (.getfield 44, 3) := by decide +kernel
theorem dX12_cull_23 : decode cX12_cull 23 = .ok (.iload_n 1, 1) := by decide +kernel
theorem dX12_cull_24 : decode cX12_cull 24 = .ok (.iconst 3, 1) := by decide +kernel
theorem dX12_cull_25 : decode cX12_cull 25 = .ok (.iastore, 1) := by decide +kernel
theorem dX12_cull_26 : decode cX12_cull 26 = .ok (.iconst 1, 1) := by decide +kernel
theorem dX12_cull_27 : decode cX12_cull 27 = .ok (.ireturn, 1) := by decide +kernel
theorem dX12_where_0 : decode cX12_where 0 = .ok (.aload_n 0, 1) := by decide +kernel
theorem dX12_where_1 : decode cX12_where 1 = .ok (.iload_n 1, 1) := by decide +kernel
theorem dX12_where_2 : decode cX12_where 2 = .ok (.invokevirtual 443, 3) := by decide +kernel
theorem dX12_where_5 : decode cX12_where 5 = .ok (.ifCond .eq 30, 3) := by decide +kernel
theorem dX12_where_8 : decode cX12_where 8 = .ok (.iload_n 2, 1) := by decide +kernel
theorem dX12_where_9 : decode cX12_where 9 = .ok (.i2l, 1) := by decide +kernel
theorem dX12_where_10 : decode cX12_where 10 = .ok (.lconst 0, 1) := by decide +kernel
theorem dX12_where_11 : decode cX12_where 11 = .ok (.aload_n 0, 1) := by decide +kernel
theorem dX12_where_12 : decode cX12_where 12 = .ok (.getfield 219, 3) := by decide +kernel
theorem dX12_where_15 : decode cX12_where 15 = .ok (.i2l, 1) := by decide +kernel
theorem dX12_where_16 : decode cX12_where 16 = .ok (.invokestatic 203, 3) := by decide +kernel
theorem dX12_where_19 : decode cX12_where 19 = .ok (.ifCond .eq 16, 3) := by decide +kernel
theorem dX12_where_22 : decode cX12_where 22 = .ok (.iload_n 3, 1) := by decide +kernel
theorem dX12_where_23 : decode cX12_where 23 = .ok (.i2l, 1) := by decide +kernel
theorem dX12_where_24 : decode cX12_where 24 = .ok (.iload_n 2, 1) := by decide +kernel
theorem dX12_where_25 : decode cX12_where 25 = .ok (.i2l, 1) := by decide +kernel
theorem dX12_where_26 : decode cX12_where 26 = .ok (.ldc2_w 201, 3) := by decide +kernel
theorem dX12_where_29 : decode cX12_where 29 = .ok (.invokestatic 203, 3) := by decide +kernel
theorem dX12_where_32 : decode cX12_where 32 = .ok (.ifCond .ne 5, 3) := by decide +kernel
theorem dX12_where_35 : decode cX12_where 35 = .ok (.iconst (-1), 1) := by decide +kernel
theorem dX12_where_36 : decode cX12_where 36 = .ok (.ireturn, 1) := by decide +kernel
theorem dX12_where_37 : decode cX12_where 37 = .ok (.iconst 0, 1) := by decide +kernel
theorem dX12_where_38 : decode cX12_where 38 = .ok (.istore 4, 2) := by decide +kernel
theorem dX12_where_40 : decode cX12_where 40 = .ok (.iconst 0, 1) := by decide +kernel
theorem dX12_where_41 : decode cX12_where 41 = .ok (.istore 5, 2) := by decide +kernel
theorem dX12_where_43 : decode cX12_where 43 = .ok (.iload 5, 2) := by decide +kernel
theorem dX12_where_45 : decode cX12_where 45 = .ok (.aload_n 0, 1) := by decide +kernel
theorem dX12_where_46 : decode cX12_where 46 = .ok (.getfield 449, 3) := by decide +kernel
theorem dX12_where_49 : decode cX12_where 49 = .ok (.if_icmp .ge 51, 3) := by decide +kernel
theorem dX12_where_52 : decode cX12_where 52 = .ok (.aload_n 0, 1) := by decide +kernel
theorem dX12_where_53 : decode cX12_where 53 = .ok (.getfield 153, 3) := by decide +kernel
theorem dX12_where_56 : decode cX12_where 56 = .ok (.iload 5, 2) := by decide +kernel
theorem dX12_where_58 : decode cX12_where 58 = .ok (.iaload, 1) := by decide +kernel
theorem dX12_where_59 : decode cX12_where 59 = .ok (.iload_n 1, 1) := by decide +kernel
theorem dX12_where_60 : decode cX12_where 60 = .ok (.if_icmp .ne 34, 3) := by decide +kernel
theorem dX12_where_63 : decode cX12_where 63 = .ok (.aload_n 0, 1) := by decide +kernel
theorem dX12_where_64 : decode cX12_where 64 = .ok (.getfield 159, 3) := by decide +kernel
theorem dX12_where_67 : decode cX12_where 67 = .ok (.iload 5, 2) := by decide +kernel
theorem dX12_where_69 : decode cX12_where 69 = .ok (.iaload, 1) := by decide +kernel
theorem dX12_where_70 : decode cX12_where 70 = .ok (.iload_n 2, 1) := by decide +kernel
theorem dX12_where_71 : decode cX12_where 71 = .ok (.if_icmp .gt 23, 3) := by decide +kernel
theorem dX12_where_74 : decode cX12_where 74 = .ok (.aload_n 0, 1) := by decide +kernel
theorem dX12_where_75 : decode cX12_where 75 = .ok (.getfield 162, 3) := by decide +kernel
theorem dX12_where_78 : decode cX12_where 78 = .ok (.iload 5, 2) := by decide +kernel
theorem dX12_where_80 : decode cX12_where 80 = .ok (.iaload, 1) := by decide +kernel
theorem dX12_where_81 : decode cX12_where 81 = .ok (.iload_n 3, 1) := by decide +kernel
theorem dX12_where_82 : decode cX12_where 82 = .ok (.if_icmp .gt 12, 3) := by decide +kernel
theorem dX12_where_85 : decode cX12_where 85 = .ok (.aload_n 0, 1) := by decide +kernel
theorem dX12_where_86 : decode cX12_where 86 = .ok (.getfield 156, 3) := by decide +kernel
theorem dX12_where_89 : decode cX12_where 89 = .ok (.iload 5, 2) := by decide +kernel
theorem dX12_where_91 : decode cX12_where 91 = .ok (.iaload, 1) := by decide +kernel
theorem dX12_where_92 : decode cX12_where 92 = .ok (.istore 4, 2) := by decide +kernel
theorem dX12_where_94 : decode cX12_where 94 = .ok (.iinc 5 1, 3) := by decide +kernel
theorem dX12_where_97 : decode cX12_where 97 = .ok (.goto (-54), 3) := by decide +kernel
theorem dX12_where_100 : decode cX12_where 100 = .ok (.iload 4, 2) := by decide +kernel
theorem dX12_where_102 : decode cX12_where 102 = .ok (.ireturn, 1) := by decide +kernel
theorem dX12_numberAt_0 : decode cX12_numberAt 0 = .ok (.iconst 0, 1) := by decide +kernel
theorem dX12_numberAt_1 : decode cX12_numberAt 1 = .ok (.istore_n 2, 1) := by decide +kernel
theorem dX12_numberAt_2 : decode cX12_numberAt 2 = .ok (.iconst 0, 1) := by decide +kernel
theorem dX12_numberAt_3 : decode cX12_numberAt 3 = .ok (.istore_n 3, 1) := by decide +kernel
theorem dX12_numberAt_4 : decode cX12_numberAt 4 = .ok (.iload_n 3, 1) := by decide +kernel
theorem dX12_numberAt_5 : decode cX12_numberAt 5 = .ok (.iconst 4, 1) := by decide +kernel
theorem dX12_numberAt_6 : decode cX12_numberAt 6 = .ok (.if_icmp .ge 29, 3) := by decide +kernel
theorem dX12_numberAt_9 : decode cX12_numberAt 9 = .ok (.iload_n 2, 1) := by decide +kernel
theorem dX12_numberAt_10 : decode cX12_numberAt 10 = .ok (.bipush 8, 2) := by decide +kernel
theorem dX12_numberAt_12 : decode cX12_numberAt 12 = .ok (.ishl, 1) := by decide +kernel
theorem dX12_numberAt_13 : decode cX12_numberAt 13 = .ok (.aload_n 0, 1) := by decide +kernel
theorem dX12_numberAt_14 : decode cX12_numberAt 14 = .ok (.getfield 7, 3) := by decide +kernel
theorem dX12_numberAt_17 : decode cX12_numberAt 17 = .ok (.iconst 4, 1) := by decide +kernel
theorem dX12_numberAt_18 : decode cX12_numberAt 18 = .ok (.iload_n 1, 1) := by decide +kernel
theorem dX12_numberAt_19 : decode cX12_numberAt 19 = .ok (.imul, 1) := by decide +kernel
theorem dX12_numberAt_20 : decode cX12_numberAt 20 = .ok (.iload_n 3, 1) := by decide +kernel
theorem dX12_numberAt_21 : decode cX12_numberAt 21 = .ok (.iadd, 1) := by decide +kernel
theorem dX12_numberAt_22 : decode cX12_numberAt 22 = .ok (.baload, 1) := by decide +kernel
theorem dX12_numberAt_23 : decode cX12_numberAt 23 = .ok (.sipush 255, 3) := by decide +kernel
theorem dX12_numberAt_26 : decode cX12_numberAt 26 = .ok (.iand, 1) := by decide +kernel
theorem dX12_numberAt_27 : decode cX12_numberAt 27 = .ok (.ior, 1) := by decide +kernel
theorem dX12_numberAt_28 : decode cX12_numberAt 28 = .ok (.istore_n 2, 1) := by decide +kernel
theorem dX12_numberAt_29 : decode cX12_numberAt 29 = .ok (.iinc 3 1, 3) := by decide +kernel
theorem dX12_numberAt_32 : decode cX12_numberAt 32 = .ok (.goto (-28), 3) := by decide +kernel
theorem dX12_numberAt_35 : decode cX12_numberAt 35 = .ok (.iload_n 2, 1) := by decide +kernel
theorem dX12_numberAt_36 : decode cX12_numberAt 36 = .ok (.ireturn, 1) := by decide +kernel
theorem dX12_check_0 : decode cX12_check 0 = .ok (.aload_n 0, 1) := by decide +kernel
theorem dX12_check_1 : decode cX12_check 1 = .ok (.iload_n 1, 1) := by decide +kernel
theorem dX12_check_2 : decode cX12_check 2 = .ok (.invokevirtual 443, 3) := by decide +kernel
theorem dX12_check_5 : decode cX12_check 5 = .ok (.ifCond .eq 18, 3) := by decide +kernel
theorem dX12_check_8 : decode cX12_check 8 = .ok (.iload_n 2, 1) := by decide +kernel
theorem dX12_check_9 : decode cX12_check 9 = .ok (.ifCond .lt 14, 3) := by decide +kernel
theorem dX12_check_12 : decode cX12_check 12 = .ok (.iload_n 2, 1) := by decide +kernel
theorem dX12_check_13 : decode cX12_check 13 = .ok (.aload_n 0, 1) := by decide +kernel
theorem dX12_check_14 : decode cX12_check 14 = .ok (.getfield 255, 3) := by decide +kernel
theorem dX12_check_17 : decode cX12_check 17 = .ok (.bipush 8, 2) := by decide +kernel
theorem dX12_check_19 : decode cX12_check 19 = .ok (.idiv, 1) := by decide +kernel
theorem dX12_check_20 : decode cX12_check 20 = .ok (.if_icmp .le 6, 3) := by decide +kernel
theorem dX12_check_23 : decode cX12_check 23 = .ok (.bipush (-2), 2) := by decide +kernel
theorem dX12_check_25 : decode cX12_check 25 = .ok (.ireturn, 1) := by decide +kernel
theorem dX12_check_26 : decode cX12_check 26 = .ok (.aload_n 0, 1) := by decide +kernel
theorem dX12_check_27 : decode cX12_check 27 = .ok (.iconst 0, 1) := by decide +kernel
theorem dX12_check_28 : decode cX12_check 28 = .ok (.putfield 255, 3) := by decide +kernel
theorem dX12_check_31 : decode cX12_check 31 = .ok (.iconst 0, 1) := by decide +kernel
