theorem dX6_strength_109 : decode cX6_strength 109 = .ok (.iload 5, 2) := by decide +kernel
theorem dX6_strength_111 : decode cX6_strength 111 = .ok (.imul, 1) := by decide +kernel
theorem dX6_strength_112 : decode cX6_strength 112 = .ok (.aload_n 0, 1) := by decide +kernel
theorem dX6_strength_113 : decode cX6_strength 113 = .ok (.getfield 122, 3) := by decide +kernel
theorem dX6_strength_116 : decode cX6_strength 116 = .ok (.iadd, 1) := by decide +kernel
theorem dX6_strength_117 : decode cX6_strength 117 = .ok (.aload_n 0, 1) := by decide +kernel
theorem dX6_strength_118 : decode cX6_strength 118 = .ok (.getfield 43, 3) := by decide +kernel
theorem dX6_strength_121 : decode cX6_strength 121 = .ok (.iload 5, 2) := by decide +kernel
theorem dX6_strength_123 : decode cX6_strength 123 = .ok (.iaload, 1) := by decide +kernel
theorem dX6_strength_124 : decode cX6_strength 124 = .ok (.iastore, 1) := by decide +kernel
theorem dX6_strength_125 : decode cX6_strength 125 = .ok (.iinc 5 1, 3) := by decide +kernel
theorem dX6_strength_128 : decode cX6_strength 128 = .ok (.goto (-80), 3) := by decide +kernel
theorem dX6_strength_131 : decode cX6_strength 131 = .ok (.iconst 0, 1) := by decide +kernel
theorem dX6_strength_132 : decode cX6_strength 132 = .ok (.istore 5, 2) := by decide +kernel
theorem dX6_strength_134 : decode cX6_strength 134 = .ok (.iload 5, 2) := by decide +kernel
theorem dX6_strength_136 : decode cX6_strength 136 = .ok (.aload_n 0, 1) := by decide +kernel
theorem dX6_strength_137 : decode cX6_strength 137 = .ok (.getfield 122, 3) := by decide +kernel
theorem dX6_strength_140 : decode cX6_strength 140 = .ok (.if_icmp .ge 55, 3) := by decide +kernel
theorem dX6_strength_143 : decode cX6_strength 143 = .ok (.iload 5, 2) := by decide +kernel
theorem dX6_strength_145 : decode cX6_strength 145 = .ok (.istore 6, 2) := by decide +kernel
theorem dX6_strength_147 : decode cX6_strength 147 = .ok (.aload_n 0, 1) := by decide +kernel
theorem dX6_strength_148 : decode cX6_strength 148 = .ok (.getfield 49, 3) := by decide +kernel
theorem dX6_strength_151 : decode cX6_strength 151 = .ok (.bipush 25, 2) := by decide +kernel
theorem dX6_strength_153 : decode cX6_strength 153 = .ok (.iload 6, 2) := by decide +kernel
theorem dX6_strength_155 : decode cX6_strength 155 = .ok (.imul, 1) := by decide +kernel
theorem dX6_strength_156 : decode cX6_strength 156 = .ok (.iload 5, 2) := by decide +kernel
theorem dX6_strength_158 : decode cX6_strength 158 = .ok (.iadd, 1) := by decide +kernel
theorem dX6_strength_159 : decode cX6_strength 159 = .ok (.iaload, 1) := by decide +kernel
theorem dX6_strength_160 : decode cX6_strength 160 = .ok (.ifCond .ne 9, 3) := by decide +kernel
theorem dX6_strength_163 : decode cX6_strength 163 = .ok (.iinc 6 1, 3) := by decide +kernel
theorem dX6_strength_166 : decode cX6_strength 166 = .ok (.goto (-19), 3) := by decide +kernel
theorem dX6_strength_169 : decode cX6_strength 169 = .ok (.aload_n 0, 1) := by decide +kernel
theorem dX6_strength_170 : decode cX6_strength 170 = .ok (.iload 6, 2) := by decide +kernel
theorem dX6_strength_172 : decode cX6_strength 172 = .ok (.iload 5, 2) := by decide +kernel
theorem dX6_strength_174 : decode cX6_strength 174 = .ok (.iload 5, 2) := by decide +kernel
theorem dX6_strength_176 : decode cX6_strength 176 = .ok (.aload_n 0, 1) := by decide +kernel
theorem dX6_strength_177 : decode cX6_strength 177 = .ok (.getfield 122, 3) := by decide +kernel
theorem dX6_strength_180 : decode cX6_strength 180 = .ok (.iconst 1, 1) := by decide +kernel
theorem dX6_strength_181 : decode cX6_strength 181 = .ok (.iadd, 1) := by decide +kernel
theorem dX6_strength_182 : decode cX6_strength 182 = .ok (.aload_n 0, 1) := by decide +kernel
theorem dX6_strength_183 : decode cX6_strength 183 = .ok (.getfield 122, 3) := by decide +kernel
theorem dX6_strength_186 : decode cX6_strength 186 = .ok (.invokevirtual 112, 3) := by decide +kernel
theorem dX6_strength_189 : decode cX6_strength 189 = .ok (.iinc 5 1, 3) := by decide +kernel
theorem dX6_strength_192 : decode cX6_strength 192 = .ok (.goto (-58), 3) := by decide +kernel
theorem dX6_strength_195 : decode cX6_strength 195 = .ok (.aload_n 0, 1) := by decide +kernel
theorem dX6_strength_196 : decode cX6_strength 196 = .ok (.getfield 49, 3) := by decide +kernel
theorem dX6_strength_199 : decode cX6_strength 199 = .ok (.bipush 25, 2) := by decide +kernel
theorem dX6_strength_201 : decode cX6_strength 201 = .ok (.iload_n 3, 1) := by decide +kernel
theorem dX6_strength_202 : decode cX6_strength 202 = .ok (.imul, 1) := by decide +kernel
theorem dX6_strength_203 : decode cX6_strength 203 = .ok (.aload_n 0, 1) := by decide +kernel
theorem dX6_strength_204 : decode cX6_strength 204 = .ok (.getfield 122, 3) := by decide +kernel
theorem dX6_strength_207 : decode cX6_strength 207 = .ok (.iadd, 1) := by decide +kernel
theorem dX6_strength_208 : decode cX6_strength 208 = .ok (.iaload, 1) := by decide +kernel
theorem dX6_strength_209 : decode cX6_strength 209 = .ok (.ireturn, 1) := by decide +kernel
theorem dX6_mended_0 : decode cX6_mended 0 = .ok (.iload_n 1, 1) := by decide +kernel
theorem dX6_mended_1 : decode cX6_mended 1 = .ok (.iload_n 2, 1) := by decide +kernel
theorem dX6_mended_2 : decode cX6_mended 2 = .ok (.invokestatic 128, 3) := by decide +kernel
theorem dX6_mended_5 : decode cX6_mended 5 = .ok (.ifCond .eq 32, 3) := by decide +kernel
theorem dX6_mended_8 : decode cX6_mended 8 = .ok (.iload_n 3, 1) := by decide +kernel
theorem dX6_mended_9 : decode cX6_mended 9 = .ok (.i2l, 1) := by decide +kernel
theorem dX6_mended_10 : decode cX6_mended 10 = .ok (.iload_n 1, 1) := by decide +kernel
theorem dX6_mended_11 : decode cX6_mended 11 = .ok (.i2l, 1) := by decide +kernel
theorem dX6_mended_12 : decode cX6_mended 12 = .ok (.iload_n 1, 1) := by decide +kernel
theorem dX6_mended_13 : decode cX6_mended 13 = .ok (.iload_n 2, 1) := by decide +kernel
theorem dX6_mended_14 : decode cX6_mended 14 = .ok (.iadd, 1) := by decide +kernel
theorem dX6_mended_15 : decode cX6_mended 15 = .ok (.iconst 1, 1) := by decide +kernel
theorem dX6_mended_16 : decode cX6_mended 16 = .ok (.isub, 1) := by decide +kernel
theorem dX6_mended_17 : decode cX6_mended 17 = .ok (.i2l, 1) := by decide +kernel
theorem dX6_mended_18 : decode cX6_mended 18 = .ok (.invokestatic 65, 3) := by decide +kernel
theorem dX6_mended_21 : decode cX6_mended 21 = .ok (.ifCond .eq 16, 3) := by decide +kernel
theorem dX6_mended_24 : decode cX6_mended 24 = .ok (.iload 4, 2) := by decide +kernel
theorem dX6_mended_26 : decode cX6_mended 26 = .ok (.i2l, 1) := by decide +kernel
theorem dX6_mended_27 : decode cX6_mended 27 = .ok (.lconst 0, 1) := by decide +kernel
theorem dX6_mended_28 : decode cX6_mended 28 = .ok (.ldc2_w 155, 3) := by decide +kernel
theorem dX6_mended_31 : decode cX6_mended 31 = .ok (.invokestatic 65, 3) := by decide +kernel
theorem dX6_mended_34 : decode cX6_mended 34 = .ok (.ifCond .ne 7, 3) := by decide +kernel
theorem dX6_mended_37 : decode cX6_mended 37 = .ok (.sipush (-1002), 3) := by decide +kernel
theorem dX6_mended_40 : decode cX6_mended 40 = .ok (.ireturn, 1) := by decide +kernel
theorem dX6_mended_41 : decode cX6_mended 41 = .ok (.aload_n 0, 1) := by decide +kernel
theorem dX6_mended_42 : decode cX6_mended 42 = .ok (.iload_n 1, 1) := by decide +kernel
theorem dX6_mended_43 : decode cX6_mended 43 = .ok (.iload_n 2, 1) := by decide +kernel
theorem dX6_mended_44 : decode cX6_mended 44 = .ok (.invokevirtual 132, 3) := by decide +kernel
theorem dX6_mended_47 : decode cX6_mended 47 = .ok (.ifCond .ne 7, 3) := by decide +kernel
theorem dX6_mended_50 : decode cX6_mended 50 = .ok (.sipush (-1003), 3) := by decide +kernel
theorem dX6_mended_53 : decode cX6_mended 53 = .ok (.ireturn, 1) := by decide +kernel
theorem dX6_mended_54 : decode cX6_mended 54 = .ok (.aload_n 0, 1) := by decide +kernel
theorem dX6_mended_55 : decode cX6_mended 55 = .ok (.iload_n 1, 1) := by decide +kernel
theorem dX6_mended_56 : decode cX6_mended 56 = .ok (.iload_n 2, 1) := by decide +kernel
theorem dX6_mended_57 : decode cX6_mended 57 = .ok (.invokevirtual 135, 3) := by decide +kernel
theorem dX6_mended_60 : decode cX6_mended 60 = .ok (.bipush 25, 2) := by decide +kernel
theorem dX6_mended_62 : decode cX6_mended 62 = .ok (.istore 5, 2) := by decide +kernel
theorem dX6_mended_64 : decode cX6_mended 64 = .ok (.iconst 0, 1) := by decide +kernel
theorem dX6_mended_65 : decode cX6_mended 65 = .ok (.istore 6, 2) := by decide +kernel
theorem dX6_mended_67 : decode cX6_mended 67 = .ok (.iconst 0, 1) := by decide +kernel
theorem dX6_mended_68 : decode cX6_mended 68 = .ok (.istore 7, 2) := by decide +kernel
theorem dX6_mended_70 : decode cX6_mended 70 = .ok (.aload_n 0, 1) := by decide +kernel
theorem dX6_mended_71 : decode cX6_mended 71 = .ok (.getfield 7, 3) := by decide +kernel
theorem dX6_mended_74 : decode cX6_mended 74 = .ok (.iconst 1, 1) := by decide +kernel
theorem dX6_mended_75 : decode cX6_mended 75 = .ok (.isub, 1) := by decide +kernel
theorem dX6_mended_76 : decode cX6_mended 76 = .ok (.istore 8, 2) := by decide +kernel
theorem dX6_mended_78 : decode cX6_mended 78 = .ok (.iload 8, 2) := by decide +kernel
theorem dX6_mended_80 : decode cX6_mended 80 = .ok (.ifCond .lt 94, 3) := by decide +kernel
theorem dX6_mended_83 : decode cX6_mended 83 = .ok (.aload_n 0, 1) := by decide +kernel
theorem dX6_mended_84 : decode cX6_mended 84 = .ok (.getfield 43, 3) := by decide +kernel
theorem dX6_mended_87 : decode cX6_mended 87 = .ok (.iload_n 3, 1) := by decide +kernel
theorem dX6_mended_88 : decode cX6_mended 88 = .ok (.iload_n 1, 1) := by decide +kernel
theorem dX6_mended_89 : decode cX6_mended 89 = .ok (.isub, 1) := by decide +kernel
theorem dX6_mended_90 : decode cX6_mended 90 = .ok (.iload 8, 2) := by decide +kernel
theorem dX6_mended_92 : decode cX6_mended 92 = .ok (.iastore, 1) := by decide +kernel
theorem dX6_mended_93 : decode cX6_mended 93 = .ok (.aload_n 0, 1) := by decide +kernel
theorem dX6_mended_94 : decode cX6_mended 94 = .ok (.invokevirtual 139, 3) := by decide +kernel
theorem dX6_mended_97 : decode cX6_mended 97 = .ok (.aload_n 0, 1) := by decide +kernel
theorem dX6_mended_98 : decode cX6_mended 98 = .ok (.getfield 122, 3) := by decide +kernel
theorem dX6_mended_101 : decode cX6_mended 101 = .ok (.iload 5, 2) := by decide +kernel
theorem dX6_mended_103 : decode cX6_mended 103 = .ok (.if_icmp .ge 7, 3) := by decide +kernel
theorem dX6_mended_106 : decode cX6_mended 106 = .ok (.iconst 1, 1) := by decide +kernel
theorem dX6_mended_107 : decode cX6_mended 107 = .ok (.goto 21, 3) := by decide +kernel
theorem dX6_mended_110 : decode cX6_mended 110 = .ok (.aload_n 0, 1) := by decide +kernel
theorem dX6_mended_111 : decode cX6_mended 111 = .ok (.getfield 122, 3) := by decide +kernel
theorem dX6_mended_114 : decode cX6_mended 114 = .ok (.iload 5, 2) := by decide +kernel
theorem dX6_mended_116 : decode cX6_mended 116 = .ok (.if_icmp .ne 10, 3) := by decide +kernel
theorem dX6_mended_119 : decode cX6_mended 119 = .ok (.iload 6, 2) := by decide +kernel
theorem dX6_mended_121 : decode cX6_mended 121 = .ok (.iconst 1, 1) := by decide +kernel
theorem dX6_mended_122 : decode cX6_mended 122 = .ok (.iadd, 1) := by decide +kernel
theorem dX6_mended_123 : decode cX6_mended 123 = .ok (.goto 5, 3) := by decide +kernel
theorem dX6_mended_126 : decode cX6_mended 126 = .ok (.iload 6, 2) := by decide +kernel
theorem dX6_mended_128 : decode cX6_mended 128 = .ok (.istore 6, 2) := by decide +kernel
theorem dX6_mended_130 : decode cX6_mended 130 = .ok (.aload_n 0, 1) := by decide +kernel
theorem dX6_mended_131 : decode cX6_mended 131 = .ok (.getfield 122, 3) := by decide +kernel
theorem dX6_mended_134 : decode cX6_mended 134 = .ok (.iload 5, 2) := by decide +kernel
theorem dX6_mended_136 : decode cX6_mended 136 = .ok (.if_icmp .gt 8, 3) := by decide +kernel
theorem dX6_mended_139 : decode cX6_mended 139 = .ok (.iload 8, 2) := by decide +kernel
theorem dX6_mended_141 : decode cX6_mended 141 = .ok (.goto 5, 3) := by decide +kernel
theorem dX6_mended_144 : decode cX6_mended 144 = .ok (.iload 7, 2) := by decide +kernel
theorem dX6_mended_146 : decode cX6_mended 146 = .ok (.istore 7, 2) := by decide +kernel
theorem dX6_mended_148 : decode cX6_mended 148 = .ok (.aload_n 0, 1) := by decide +kernel
theorem dX6_mended_149 : decode cX6_mended 149 = .ok (.getfield 122, 3) := by decide +kernel
theorem dX6_mended_152 : decode cX6_mended 152 = .ok (.iload 5, 2) := by decide +kernel
theorem dX6_mended_154 : decode cX6_mended 154 = .ok (.if_icmp .ge 10, 3) := by decide +kernel
theorem dX6_mended_157 : decode cX6_mended 157 = .ok (.aload_n 0, 1) := by decide +kernel
theorem dX6_mended_158 : decode cX6_mended 158 = .ok (.getfield 122, 3) := by decide +kernel
theorem dX6_mended_161 : decode cX6_mended 161 = .ok (.goto 5, 3) := by decide +kernel
theorem dX6_mended_164 : decode cX6_mended 164 = .ok (.iload 5, 2) := by decide +kernel
theorem dX6_mended_166 : decode cX6_mended 166 = .ok (.istore 5, 2) := by decide +kernel
theorem dX6_mended_168 : decode cX6_mended 168 = .ok (.iinc 8 (-1), 3) := by decide +kernel
theorem dX6_mended_171 : decode cX6_mended 171 = .ok (.goto (-93), 3) := by decide +kernel
theorem dX6_mended_174 : decode cX6_mended 174 = .ok (.iload 4, 2) := by decide +kernel
theorem dX6_mended_176 : decode cX6_mended 176 = .ok (.ifCond .ne 8, 3) := by decide +kernel
theorem dX6_mended_179 : decode cX6_mended 179 = .ok (.iload 5, 2) := by decide +kernel
theorem dX6_mended_181 : decode cX6_mended 181 = .ok (.goto 16, 3) := by decide +kernel
theorem dX6_mended_184 : decode cX6_mended 184 = .ok (.iload 4, 2) := by decide +kernel
theorem dX6_mended_186 : decode cX6_mended 186 = .ok (.iconst 1, 1) := by decide +kernel
theorem dX6_mended_187 : decode cX6_mended 187 = .ok (.if_icmp .ne 8, 3) := by decide +kernel
theorem dX6_mended_190 : decode cX6_mended 190 = .ok (.iload 6, 2) := by decide +kernel
theorem dX6_mended_192 : decode cX6_mended 192 = .ok (.goto 5, 3) := by decide +kernel
theorem dX6_mended_195 : decode cX6_mended 195 = .ok (.iload 7, 2) := by decide +kernel
theorem dX6_mended_197 : decode cX6_mended 197 = .ok (.ireturn, 1) := by decide +kernel
theorem dX6_tune_0 : decode cX6_tune 0 = .ok (.iload_n 1, 1) := by decide +kernel
theorem dX6_tune_1 : decode cX6_tune 1 = .ok (.i2l, 1) := by decide +kernel
theorem dX6_tune_2 : decode cX6_tune 2 = .ok (.lconst 0, 1) := by decide +kernel
theorem dX6_tune_3 : decode cX6_tune 3 = .ok (.aload_n 0, 1) := by decide +kernel
theorem dX6_tune_4 : decode cX6_tune 4 = .ok (.getfield 58, 3) := by decide +kernel
theorem dX6_tune_7 : decode cX6_tune 7 = .ok (.iconst 1, 1) := by decide +kernel
theorem dX6_tune_8 : decode cX6_tune 8 = .ok (.isub, 1) := by decide +kernel
theorem dX6_tune_9 : decode cX6_tune 9 = .ok (.i2l, 1) := by decide +kernel
theorem dX6_tune_10 : decode cX6_tune 10 = .ok (.invokestatic 65, 3) := by decide +kernel
theorem dX6_tune_13 : decode cX6_tune 13 = .ok (.ifCond .ne 7, 3) := by decide +kernel
theorem dX6_tune_16 : decode cX6_tune 16 = .ok (.sipush (-1001), 3) := by decide +kernel
theorem dX6_tune_19 : decode cX6_tune 19 = .ok (.ireturn, 1) := by decide +kernel
theorem dX6_tune_20 : decode cX6_tune 20 = .ok (.iconst 0, 1) := by decide +kernel
theorem dX6_tune_21 : decode cX6_tune 21 = .ok (.istore_n 2, 1) := by decide +kernel
theorem dX6_tune_22 : decode cX6_tune 22 = .ok (.iload_n 2, 1) := by decide +kernel
theorem dX6_tune_23 : decode cX6_tune 23 = .ok (.bipush 24, 2) := by decide +kernel
theorem dX6_tune_25 : decode cX6_tune 25 = .ok (.if_icmp .ge 29, 3) := by decide +kernel
theorem dX6_tune_28 : decode cX6_tune 28 = .ok (.aload_n 0, 1) := by decide +kernel
theorem dX6_tune_29 : decode cX6_tune 29 = .ok (.iload_n 2, 1) := by decide +kernel
theorem dX6_tune_30 : decode cX6_tune 30 = .ok (.invokevirtual 93, 3) := by decide +kernel
theorem dX6_tune_33 : decode cX6_tune 33 = .ok (.ifCond .eq 15, 3) := by decide +kernel
theorem dX6_tune_36 : decode cX6_tune 36 = .ok (.aload_n 0, 1) := by decide +kernel
theorem dX6_tune_37 : decode cX6_tune 37 = .ok (.iload_n 2, 1) := by decide +kernel
theorem dX6_tune_38 : decode cX6_tune 38 = .ok (.invokevirtual 90, 3) := by decide +kernel
theorem dX6_tune_41 : decode cX6_tune 41 = .ok (.ifCond .ne 7, 3) := by decide +kernel
theorem dX6_tune_44 : decode cX6_tune 44 = .ok (.sipush (-1003), 3) := by decide +kernel
theorem dX6_tune_47 : decode cX6_tune 47 = .ok (.ireturn, 1) := by decide +kernel
theorem dX6_tune_48 : decode cX6_tune 48 = .ok (.iinc 2 1, 3) := by decide +kernel
theorem dX6_tune_51 : decode cX6_tune 51 = .ok (.goto (-29), 3) := by decide +kernel
theorem dX6_tune_54 : decode cX6_tune 54 = .ok (.iconst 0, 1) := by decide +kernel
theorem dX6_tune_55 : decode cX6_tune 55 = .ok (.istore_n 2, 1) := by decide +kernel
theorem dX6_tune_56 : decode cX6_tune 56 = .ok (.iconst 0, 1) := by decide +kernel
theorem dX6_tune_57 : decode cX6_tune 57 = .ok (.istore_n 3, 1) := by decide +kernel
theorem dX6_tune_58 : decode cX6_tune 58 = .ok (.iload_n 3, 1) := by decide +kernel
theorem dX6_tune_59 : decode cX6_tune 59 = .ok (.bipush 24, 2) := by decide +kernel
theorem dX6_tune_61 : decode cX6_tune 61 = .ok (.if_icmp .ge 84, 3) := by decide +kernel
theorem dX6_tune_64 : decode cX6_tune 64 = .ok (.aload_n 0, 1) := by decide +kernel
theorem dX6_tune_65 : decode cX6_tune 65 = .ok (.iload_n 3, 1) := by decide +kernel
theorem dX6_tune_66 : decode cX6_tune 66 = .ok (.invokevirtual 93, 3) := by decide +kernel
theorem dX6_tune_69 : decode cX6_tune 69 = .ok (.ifCond .eq 70, 3) := by decide +kernel
theorem dX6_tune_72 : decode cX6_tune 72 = .ok (.aload_n 0, 1) := by decide +kernel
theorem dX6_tune_73 : decode cX6_tune 73 = .ok (.iload_n 3, 1) := by decide +kernel
theorem dX6_tune_74 : decode cX6_tune 74 = .ok (.invokevirtual 90, 3) := by decide +kernel
theorem dX6_tune_77 : decode cX6_tune 77 = .ok (.aload_n 0, 1) := by decide +kernel
theorem dX6_tune_78 : decode cX6_tune 78 = .ok (.aload_n 0, 1) := by decide +kernel
theorem dX6_tune_79 : decode cX6_tune 79 = .ok (.getfield 21, 3) := by decide +kernel
theorem dX6_tune_82 : decode cX6_tune 82 = .ok (.iload_n 1, 1) := by decide +kernel
theorem dX6_tune_83 : decode cX6_tune 83 = .ok (.iaload, 1) := by decide +kernel
theorem dX6_tune_84 : decode cX6_tune 84 = .ok (.aload_n 0, 1) := by decide +kernel
theorem dX6_tune_85 : decode cX6_tune 85 = .ok (.aload_n 0, 1) := by decide +kernel
theorem dX6_tune_86 : decode cX6_tune 86 = .ok (.getfield 17, 3) := by decide +kernel
theorem dX6_tune_89 : decode cX6_tune 89 = .ok (.iload_n 1, 1) := by decide +kernel
theorem dX6_tune_90 : decode cX6_tune 90 = .ok (.iaload, 1) := by decide +kernel
theorem dX6_tune_91 : decode cX6_tune 91 = .ok (.iload_n 3, 1) := by decide +kernel
theorem dX6_tune_92 : decode cX6_tune 92 = .ok (.invokevirtual 84, 3) := by decide +kernel
theorem dX6_tune_95 : decode cX6_tune 95 = .ok (.imul, 1) := by decide +kernel
theorem dX6_tune_96 : decode cX6_tune 96 = .ok (.aload_n 0, 1) := by decide +kernel
theorem dX6_tune_97 : decode cX6_tune 97 = .ok (.getfield 7, 3) := by decide +kernel
theorem dX6_tune_100 : decode cX6_tune 100 = .ok (.irem, 1) := by decide +kernel
theorem dX6_tune_101 : decode cX6_tune 101 = .ok (.invokevirtual 116, 3) := by decide +kernel
theorem dX6_tune_104 : decode cX6_tune 104 = .ok (.imul, 1) := by decide +kernel
theorem dX6_tune_105 : decode cX6_tune 105 = .ok (.aload_n 0, 1) := by decide +kernel
theorem dX6_tune_106 : decode cX6_tune 106 = .ok (.getfield 7, 3) := by decide +kernel
theorem dX6_tune_109 : decode cX6_tune 109 = .ok (.irem, 1) := by decide +kernel
theorem dX6_tune_110 : decode cX6_tune 110 = .ok (.istore 4, 2) := by decide +kernel
theorem dX6_tune_112 : decode cX6_tune 112 = .ok (.iload_n 2, 1) := by decide +kernel
theorem dX6_tune_113 : decode cX6_tune 113 = .ok (.iload 4, 2) := by decide +kernel
theorem dX6_tune_115 : decode cX6_tune 115 = .ok (.aload_n 0, 1) := by decide +kernel
theorem dX6_tune_116 : decode cX6_tune 116 = .ok (.getfield 24, 3) := by decide +kernel
theorem dX6_tune_119 : decode cX6_tune 119 = .ok (.iload_n 3, 1) := by decide +kernel
theorem dX6_tune_120 : decode cX6_tune 120 = .ok (.iaload, 1) := by decide +kernel
theorem dX6_tune_121 : decode cX6_tune 121 = .ok (.if_icmp .eq 7, 3) := by decide +kernel
theorem dX6_tune_124 : decode cX6_tune 124 = .ok (.iconst 1, 1) := by decide +kernel
theorem dX6_tune_125 : decode cX6_tune 125 = .ok (.goto 4, 3) := by decide +kernel
theorem dX6_tune_128 : decode cX6_tune 128 = .ok (.iconst 0, 1) := by decide +kernel
theorem dX6_tune_129 : decode cX6_tune 129 = .ok (.iadd, 1) := by decide +kernel
theorem dX6_tune_130 : decode cX6_tune 130 = .ok (.istore_n 2, 1) := by decide +kernel
theorem dX6_tune_131 : decode cX6_tune 131 = .ok (.aload_n 0, 1) := by decide +kernel
theorem dX6_tune_132 : decode cX6_tune 132 = .ok (.getfield 24, 3) := by decide +kernel
theorem dX6_tune_135 : decode cX6_tune 135 = .ok (.iload_n 3, 1) := by decide +kernel
theorem dX6_tune_136 : decode cX6_tune 136 = .ok (.iload 4, 2) := by decide +kernel
theorem dX6_tune_138 : decode cX6_tune 138 = .ok (.iastore, 1) := by decide +kernel
theorem dX6_tune_139 : decode cX6_tune 139 = .ok (.iinc 3 1, 3) := by decide +kernel
theorem dX6_tune_142 : decode cX6_tune 142 = .ok (.goto (-84), 3) := by decide +kernel
theorem dX6_tune_145 : decode cX6_tune 145 = .ok (.iload_n 2, 1) := by decide +kernel
theorem dX6_tune_146 : decode cX6_tune 146 = .ok (.ireturn, 1) := by decide +kernel
theorem dX6_areTwins_0 : decode cX6_areTwins 0 = .ok (.iconst (-1), 1) := by decide +kernel
theorem dX6_areTwins_1 : decode cX6_areTwins 1 = .ok (.istore_n 3, 1) := by decide +kernel
theorem dX6_areTwins_2 : decode cX6_areTwins 2 = .ok (.iconst 1, 1) := by decide +kernel
theorem dX6_areTwins_3 : decode cX6_areTwins 3 = .ok (.istore 4, 2) := by decide +kernel
theorem dX6_areTwins_5 : decode cX6_areTwins 5 = .ok (.iconst 0, 1) := by decide +kernel
theorem dX6_areTwins_6 : decode cX6_areTwins 6 = .ok (.istore 5, 2) := by decide +kernel
theorem dX6_areTwins_8 : decode cX6_areTwins 8 = .ok (.iload 5, 2) := by decide +kernel
theorem dX6_areTwins_10 : decode cX6_areTwins 10 = .ok (.bipush 24, 2) := by decide +kernel
theorem dX6_areTwins_12 : decode cX6_areTwins 12 = .ok (.if_icmp .ge 62, 3) := by decide +kernel
theorem dX6_areTwins_15 : decode cX6_areTwins 15 = .ok (.aload_n 0, 1) := by decide +kernel
theorem dX6_areTwins_16 : decode cX6_areTwins 16 = .ok (.iload 5, 2) := by decide +kernel
theorem dX6_areTwins_18 : decode cX6_areTwins 18 = .ok (.invokevirtual 93, 3) := by decide +kernel
theorem dX6_areTwins_21 : decode cX6_areTwins 21 = .ok (.ifCond .eq 47, 3) := by decide +kernel
theorem dX6_areTwins_24 : decode cX6_areTwins 24 = .ok (.iload_n 3, 1) := by decide +kernel
theorem dX6_areTwins_25 : decode cX6_areTwins 25 = .ok (.ifCond .ge 8, 3) := by decide +kernel
theorem dX6_areTwins_28 : decode cX6_areTwins 28 = .ok (.iload 5, 2) := by decide +kernel
theorem dX6_areTwins_30 : decode cX6_areTwins 30 = .ok (.goto 4, 3) := by decide +kernel
theorem dX6_areTwins_33 : decode cX6_areTwins 33 = .ok (.iload_n 3, 1) := by decide +kernel
theorem dX6_areTwins_34 : decode cX6_areTwins 34 = .ok (.istore_n 3, 1) := by decide +kernel
theorem dX6_areTwins_35 : decode cX6_areTwins 35 = .ok (.iload 4, 2) := by decide +kernel
theorem dX6_areTwins_37 : decode cX6_areTwins 37 = .ok (.ifCond .eq 28, 3) := by decide +kernel
theorem dX6_areTwins_40 : decode cX6_areTwins 40 = .ok (.aload_n 0, 1) := by decide +kernel
theorem dX6_areTwins_41 : decode cX6_areTwins 41 = .ok (.iload_n 1, 1) := by decide +kernel
theorem dX6_areTwins_42 : decode cX6_areTwins 42 = .ok (.iload 5, 2) := by decide +kernel
theorem dX6_areTwins_44 : decode cX6_areTwins 44 = .ok (.iload_n 3, 1) := by decide +kernel
theorem dX6_areTwins_45 : decode cX6_areTwins 45 = .ok (.isub, 1) := by decide +kernel
theorem dX6_areTwins_46 : decode cX6_areTwins 46 = .ok (.invokevirtual 84, 3) := by decide +kernel
theorem dX6_areTwins_49 : decode cX6_areTwins 49 = .ok (.aload_n 0, 1) := by decide +kernel
theorem dX6_areTwins_50 : decode cX6_areTwins 50 = .ok (.iload_n 2, 1) := by decide +kernel
theorem dX6_areTwins_51 : decode cX6_areTwins 51 = .ok (.iload 5, 2) := by decide +kernel
theorem dX6_areTwins_53 : decode cX6_areTwins 53 = .ok (.iload_n 3, 1) := by decide +kernel
theorem dX6_areTwins_54 : decode cX6_areTwins 54 = .ok (.isub, 1) := by decide +kernel
theorem dX6_areTwins_55 : decode cX6_areTwins 55 = .ok (.invokevirtual 84, 3) := by decide +kernel
theorem dX6_areTwins_58 : decode cX6_areTwins 58 = .ok (.if_icmp .ne 7, 3) := by decide +kernel
theorem dX6_areTwins_61 : decode cX6_areTwins 61 = .ok (.iconst 1, 1) := by decide +kernel
theorem dX6_areTwins_62 : decode cX6_areTwins 62 = .ok (.goto 4, 3) := by decide +kernel
theorem dX6_areTwins_65 : decode cX6_areTwins 65 = .ok (.iconst 0, 1) := by decide +kernel
theorem dX6_areTwins_66 : decode cX6_areTwins 66 = .ok (.istore 4, 2) := by decide +kernel
theorem dX6_areTwins_68 : decode cX6_areTwins 68 = .ok (.iinc 5 1, 3) := by decide +kernel
theorem dX6_areTwins_71 : decode cX6_areTwins 71 = .ok (.goto (-63), 3) := by decide +kernel
theorem dX6_areTwins_74 : decode cX6_areTwins 74 = .ok (.iload 4, 2) := by decide +kernel
theorem dX6_areTwins_76 : decode cX6_areTwins 76 = .ok (.ireturn, 1) := by decide +kernel
theorem dX6_findTwin_0 : decode cX6_findTwin 0 = .ok (.iconst 0, 1) := by decide +kernel
theorem dX6_findTwin_1 : decode cX6_findTwin 1 = .ok (.istore_n 3, 1) := by decide +kernel
theorem dX6_findTwin_2 : decode cX6_findTwin 2 = .ok (.iconst 1, 1) := by decide +kernel
theorem dX6_findTwin_3 : decode cX6_findTwin 3 = .ok (.istore 4, 2) := by decide +kernel
theorem dX6_findTwin_5 : decode cX6_findTwin 5 = .ok (.iload 4, 2) := by decide +kernel
theorem dX6_findTwin_7 : decode cX6_findTwin 7 = .ok (.aload_n 0, 1) := by decide +kernel
theorem dX6_findTwin_8 : decode cX6_findTwin 8 = .ok (.getfield 7, 3) := by decide +kernel
theorem dX6_findTwin_11 : decode cX6_findTwin 11 = .ok (.if_icmp .ge 60, 3) := by decide +kernel
theorem dX6_findTwin_14 : decode cX6_findTwin 14 = .ok (.iload 4, 2) := by decide +kernel
theorem dX6_findTwin_16 : decode cX6_findTwin 16 = .ok (.iconst 1, 1) := by decide +kernel
theorem dX6_findTwin_17 : decode cX6_findTwin 17 = .ok (.iadd, 1) := by decide +kernel
theorem dX6_findTwin_18 : decode cX6_findTwin 18 = .ok (.istore 5, 2) := by decide +kernel
theorem dX6_findTwin_20 : decode cX6_findTwin 20 = .ok (.iload 5, 2) := by decide +kernel
theorem dX6_findTwin_22 : decode cX6_findTwin 22 = .ok (.aload_n 0, 1) := by decide +kernel
theorem dX6_findTwin_23 : decode cX6_findTwin 23 = .ok (.getfield 7, 3) := by decide +kernel
theorem dX6_findTwin_26 : decode cX6_findTwin 26 = .ok (.if_icmp .ge 39, 3) := by decide +kernel
theorem dX6_findTwin_29 : decode cX6_findTwin 29 = .ok (.aload_n 0, 1) := by decide +kernel
theorem dX6_findTwin_30 : decode cX6_findTwin 30 = .ok (.iload 4, 2) := by decide +kernel
theorem dX6_findTwin_32 : decode cX6_findTwin 32 = .ok (.iload 5, 2) := by decide +kernel
theorem dX6_findTwin_34 : decode cX6_findTwin 34 = .ok (.invokevirtual 157, 3) := by decide +kernel
theorem dX6_findTwin_37 : decode cX6_findTwin 37 = .ok (.ifCond .eq 22, 3) := by decide +kernel
theorem dX6_findTwin_40 : decode cX6_findTwin 40 = .ok (.iload_n 3, 1) := by decide +kernel
theorem dX6_findTwin_41 : decode cX6_findTwin 41 = .ok (.iload_n 1, 1) := by decide +kernel
theorem dX6_findTwin_42 : decode cX6_findTwin 42 = .ok (.if_icmp .ne 14, 3) := by decide +kernel
theorem dX6_findTwin_45 : decode cX6_findTwin 45 = .ok (.aload_n 0, 1) := by decide +kernel
theorem dX6_findTwin_46 : decode cX6_findTwin 46 = .ok (.getfield 7, 3) := by decide +kernel
theorem dX6_findTwin_49 : decode cX6_findTwin 49 = .ok (.iload 4, 2) := by decide +kernel
theorem dX6_findTwin_51 : decode cX6_findTwin 51 = .ok (.imul, 1) := by decide +kernel
theorem dX6_findTwin_52 : decode cX6_findTwin 52 = .ok (.iload 5, 2) := by decide +kernel
theorem dX6_findTwin_54 : decode cX6_findTwin 54 = .ok (.iadd, 1) := by decide +kernel
theorem dX6_findTwin_55 : decode cX6_findTwin 55 = .ok (.ireturn, 1) := by decide +kernel
theorem dX6_findTwin_56 : decode cX6_findTwin 56 = .ok (.iinc 3 1, 3) := by decide +kernel
theorem dX6_findTwin_59 : decode cX6_findTwin 59 = .ok (.iinc 5 1, 3) := by decide +kernel
theorem dX6_findTwin_62 : decode cX6_findTwin 62 = .ok (.goto (-42), 3) := by decide +kernel
theorem dX6_findTwin_65 : decode cX6_findTwin 65 = .ok (.iinc 4 1, 3) := by decide +kernel
theorem dX6_findTwin_68 : decode cX6_findTwin 68 = .ok (.goto (-63), 3) := by decide +kernel
theorem dX6_findTwin_71 : decode cX6_findTwin 71 = .ok (.iload_n 1, 1) := by decide +kernel
theorem dX6_findTwin_72 : decode cX6_findTwin 72 = .ok (.iconst (-1), 1) := by decide +kernel
theorem dX6_findTwin_73 : decode cX6_findTwin 73 = .ok (.if_icmp .ne 7, 3) := by decide +kernel
theorem dX6_findTwin_76 : decode cX6_findTwin 76 = .ok (.iload_n 3, 1) := by decide +kernel
theorem dX6_findTwin_77 : decode cX6_findTwin 77 = .ok (.goto 4, 3) := by decide +kernel
theorem dX6_findTwin_80 : decode cX6_findTwin 80 = .ok (.iload_n 2, 1) := by decide +kernel
theorem dX6_findTwin_81 : decode cX6_findTwin 81 = .ok (.ireturn, 1) := by decide +kernel
theorem dX6_twin_0 : decode cX6_twin 0 = .ok (.iload_n 2, 1) := by decide +kernel
theorem dX6_twin_1 : decode cX6_twin 1 = .ok (.i2l, 1) := by decide +kernel
theorem dX6_twin_2 : decode cX6_twin 2 = .ok (.lconst 0, 1) := by decide +kernel
theorem dX6_twin_3 : decode cX6_twin 3 = .ok (.lconst 1, 1) := by decide +kernel
theorem dX6_twin_4 : decode cX6_twin 4 = .ok (.invokestatic 65, 3) := by decide +kernel
theorem dX6_twin_7 : decode cX6_twin 7 = .ok (.ifCond .ne 7, 3) := by decide +kernel
theorem dX6_twin_10 : decode cX6_twin 10 = .ok (.sipush (-1002), 3) := by decide +kernel
theorem dX6_twin_13 : decode cX6_twin 13 = .ok (.ireturn, 1) := by decide +kernel
theorem dX6_twin_14 : decode cX6_twin 14 = .ok (.iload_n 1, 1) := by decide +kernel
theorem dX6_twin_15 : decode cX6_twin 15 = .ok (.ifCond .ge 7, 3) := by decide +kernel
theorem dX6_twin_18 : decode cX6_twin 18 = .ok (.iconst (-1), 1) := by decide +kernel
theorem dX6_twin_19 : decode cX6_twin 19 = .ok (.goto 9, 3) := by decide +kernel
theorem dX6_twin_22 : decode cX6_twin 22 = .ok (.aload_n 0, 1) := by decide +kernel
theorem dX6_twin_23 : decode cX6_twin 23 = .ok (.iload_n 1, 1) := by decide +kernel
theorem dX6_twin_24 : decode cX6_twin 24 = .ok (.iconst (-1), 1) := by decide +kernel
theorem dX6_twin_25 : decode cX6_twin 25 = .ok (.invokevirtual 106, 3) := by decide +kernel
theorem dX6_twin_28 : decode cX6_twin 28 = .ok (.istore_n 3, 1) := by decide +kernel
theorem dX6_twin_29 : decode cX6_twin 29 = .ok (.iload_n 3, 1) := by decide +kernel
theorem dX6_twin_30 : decode cX6_twin 30 = .ok (.ifCond .ge 7, 3) := by decide +kernel
theorem dX6_twin_33 : decode cX6_twin 33 = .ok (.iconst (-1), 1) := by decide +kernel
theorem dX6_twin_34 : decode cX6_twin 34 = .ok (.goto 22, 3) := by decide +kernel
theorem dX6_twin_37 : decode cX6_twin 37 = .ok (.iload_n 2, 1) := by decide +kernel
theorem dX6_twin_38 : decode cX6_twin 38 = .ok (.ifCond .ne 12, 3) := by decide +kernel
theorem dX6_twin_41 : decode cX6_twin 41 = .ok (.iload_n 3, 1) := by decide +kernel
theorem dX6_twin_42 : decode cX6_twin 42 = .ok (.aload_n 0, 1) := by decide +kernel
theorem dX6_twin_43 : decode cX6_twin 43 = .ok (.getfield 7, 3) := by decide +kernel
theorem dX6_twin_46 : decode cX6_twin 46 = .ok (.idiv, 1) := by decide +kernel
theorem dX6_twin_47 : decode cX6_twin 47 = .ok (.goto 9, 3) := by decide +kernel
theorem dX6_twin_50 : decode cX6_twin 50 = .ok (.iload_n 3, 1) := by decide +kernel
theorem dX6_twin_51 : decode cX6_twin 51 = .ok (.aload_n 0, 1) := by decide +kernel
theorem dX6_twin_52 : decode cX6_twin 52 = .ok (.getfield 7, 3) := by decide +kernel
theorem dX6_twin_55 : decode cX6_twin 55 = .ok (.irem, 1) := by decide +kernel
theorem dX6_twin_56 : decode cX6_twin 56 = .ok (.ireturn, 1) := by decide +kernel
theorem dX6_weightOf_0 : decode cX6_weightOf 0 = .ok (.aload_n 0, 1) := by decide +kernel
theorem dX6_weightOf_1 : decode cX6_weightOf 1 = .ok (.getfield 14, 3) := by decide +kernel
theorem dX6_weightOf_4 : decode cX6_weightOf 4 = .ok (.aload_n 0, 1) := by decide +kernel
theorem dX6_weightOf_5 : decode cX6_weightOf 5 = .ok (.getfield 14, 3) := by decide +kernel
theorem dX6_weightOf_8 : decode cX6_weightOf 8 = .ok (.iload_n 1, 1) := by decide +kernel
theorem dX6_weightOf_9 : decode cX6_weightOf 9 = .ok (.ishr, 1) := by decide +kernel
theorem dX6_weightOf_10 : decode cX6_weightOf 10 = .ok (.iand, 1) := by decide +kernel
theorem dX6_weightOf_11 : decode cX6_weightOf 11 = .ok (.invokestatic 75, 3) := by decide +kernel
theorem dX6_weightOf_14 : decode cX6_weightOf 14 = .ok (.ireturn, 1) := by decide +kernel
theorem dX6_weight_0 : decode cX6_weight 0 = .ok (.iload_n 1, 1) := by decide +kernel
theorem dX6_weight_1 : decode cX6_weight 1 = .ok (.invokestatic 81, 3) := by decide +kernel
theorem dX6_weight_4 : decode cX6_weight 4 = .ok (.ifCond .eq 11, 3) := by decide +kernel
theorem dX6_weight_7 : decode cX6_weight 7 = .ok (.aload_n 0, 1) := by decide +kernel
theorem dX6_weight_8 : decode cX6_weight 8 = .ok (.iload_n 1, 1) := by decide +kernel
theorem dX6_weight_9 : decode cX6_weight 9 = .ok (.invokevirtual 96, 3) := by decide +kernel
theorem dX6_weight_12 : decode cX6_weight 12 = .ok (.goto 6, 3) := by decide +kernel
theorem dX6_weight_15 : decode cX6_weight 15 = .ok (.sipush (-1002), 3) := by decide +kernel
theorem dX6_weight_18 : decode cX6_weight 18 = .ok (.ireturn, 1) := by decide +kernel
theorem dX6_reach_0 : decode cX6_reach 0 = .ok (.iconst (-1), 1) := by decide +kernel
theorem dX6_reach_1 : decode cX6_reach 1 = .ok (.istore_n 1, 1) := by decide +kernel
theorem dX6_reach_2 : decode cX6_reach 2 = .ok (.iload_n 1, 1) := by decide +kernel
theorem dX6_reach_3 : decode cX6_reach 3 = .ok (.iconst 1, 1) := by decide +kernel
theorem dX6_reach_4 : decode cX6_reach 4 = .ok (.iadd, 1) := by decide +kernel
theorem dX6_reach_5 : decode cX6_reach 5 = .ok (.bipush 24, 2) := by decide +kernel
theorem dX6_reach_7 : decode cX6_reach 7 = .ok (.if_icmp .ge 19, 3) := by decide +kernel
theorem dX6_reach_10 : decode cX6_reach 10 = .ok (.aload_n 0, 1) := by decide +kernel
theorem dX6_reach_11 : decode cX6_reach 11 = .ok (.iload_n 1, 1) := by decide +kernel
theorem dX6_reach_12 : decode cX6_reach 12 = .ok (.iconst 1, 1) := by decide +kernel
theorem dX6_reach_13 : decode cX6_reach 13 = .ok (.iadd, 1) := by decide +kernel
theorem dX6_reach_14 : decode cX6_reach 14 = .ok (.invokevirtual 96, 3) := by decide +kernel
theorem dX6_reach_17 : decode cX6_reach 17 = .ok (.ifCond .le 9, 3) := by decide +kernel
theorem dX6_reach_20 : decode cX6_reach 20 = .ok (.iinc 1 1, 3) := by decide +kernel
theorem dX6_reach_23 : decode cX6_reach 23 = .ok (.goto (-21), 3) := by decide +kernel
theorem dX6_reach_26 : decode cX6_reach 26 = .ok (.iload_n 1, 1) := by decide +kernel
theorem dX6_reach_27 : decode cX6_reach 27 = .ok (.ireturn, 1) := by decide +kernel
theorem dX6_best_0 : decode cX6_best 0 = .ok (.iload_n 1, 1) := by decide +kernel
theorem dX6_best_1 : decode cX6_best 1 = .ok (.i2l, 1) := by decide +kernel
theorem dX6_best_2 : decode cX6_best 2 = .ok (.lconst 0, 1) := by decide +kernel
theorem dX6_best_3 : decode cX6_best 3 = .ok (.lconst 1, 1) := by decide +kernel
theorem dX6_best_4 : decode cX6_best 4 = .ok (.invokestatic 65, 3) := by decide +kernel
theorem dX6_best_7 : decode cX6_best 7 = .ok (.ifCond .ne 7, 3) := by decide +kernel
theorem dX6_best_10 : decode cX6_best 10 = .ok (.sipush (-1002), 3) := by decide +kernel
theorem dX6_best_13 : decode cX6_best 13 = .ok (.ireturn, 1) := by decide +kernel
theorem dX6_best_14 : decode cX6_best 14 = .ok (.aload_n 0, 1) := by decide +kernel
theorem dX6_best_15 : decode cX6_best 15 = .ok (.getfield 14, 3) := by decide +kernel
theorem dX6_best_18 : decode cX6_best 18 = .ok (.istore_n 2, 1) := by decide +kernel
theorem dX6_best_19 : decode cX6_best 19 = .ok (.iconst (-1), 1) := by decide +kernel
theorem dX6_best_20 : decode cX6_best 20 = .ok (.istore_n 3, 1) := by decide +kernel
theorem dX6_best_21 : decode cX6_best 21 = .ok (.iconst (-1), 1) := by decide +kernel
theorem dX6_best_22 : decode cX6_best 22 = .ok (.istore 4, 2) := by decide +kernel
theorem dX6_best_24 : decode cX6_best 24 = .ok (.iconst 0, 1) := by decide +kernel
theorem dX6_best_25 : decode cX6_best 25 = .ok (.istore 5, 2) := by decide +kernel
theorem dX6_best_27 : decode cX6_best 27 = .ok (.iload 5, 2) := by decide +kernel
theorem dX6_best_29 : decode cX6_best 29 = .ok (.bipush 24, 2) := by decide +kernel
theorem dX6_best_31 : decode cX6_best 31 = .ok (.if_icmp .ge 46, 3) := by decide +kernel
theorem dX6_best_34 : decode cX6_best 34 = .ok (.iload_n 2, 1) := by decide +kernel
theorem dX6_best_35 : decode cX6_best 35 = .ok (.iload 5, 2) := by decide +kernel
theorem dX6_best_37 : decode cX6_best 37 = .ok (.ishr, 1) := by decide +kernel
theorem dX6_best_38 : decode cX6_best 38 = .ok (.iconst 1, 1) := by decide +kernel
theorem dX6_best_39 : decode cX6_best 39 = .ok (.iand, 1) := by decide +kernel
theorem dX6_best_40 : decode cX6_best 40 = .ok (.ifCond .ne 31, 3) := by decide +kernel
theorem dX6_best_43 : decode cX6_best 43 = .ok (.aload_n 0, 1) := by decide +kernel
theorem dX6_best_44 : decode cX6_best 44 = .ok (.iload_n 2, 1) := by decide +kernel
theorem dX6_best_45 : decode cX6_best 45 = .ok (.iconst 1, 1) := by decide +kernel
theorem dX6_best_46 : decode cX6_best 46 = .ok (.iload 5, 2) := by decide +kernel
theorem dX6_best_48 : decode cX6_best 48 = .ok (.ishl, 1) := by decide +kernel
theorem dX6_best_49 : decode cX6_best 49 = .ok (.ior, 1) := by decide +kernel
theorem dX6_best_50 : decode cX6_best 50 = .ok (.putfield 14, 3) := by decide +kernel
theorem dX6_best_53 : decode cX6_best 53 = .ok (.aload_n 0, 1) := by decide +kernel
theorem dX6_best_54 : decode cX6_best 54 = .ok (.invokevirtual 102, 3) := by decide +kernel
theorem dX6_best_57 : decode cX6_best 57 = .ok (.iload 4, 2) := by decide +kernel
theorem dX6_best_59 : decode cX6_best 59 = .ok (.if_icmp .le 12, 3) := by decide +kernel
theorem dX6_best_62 : decode cX6_best 62 = .ok (.iload 5, 2) := by decide +kernel
theorem dX6_best_64 : decode cX6_best 64 = .ok (.istore_n 3, 1) := by decide +kernel
theorem dX6_best_65 : decode cX6_best 65 = .ok (.aload_n 0, 1) := by decide +kernel
theorem dX6_best_66 : decode cX6_best 66 = .ok (.invokevirtual 102, 3) := by decide +kernel
theorem dX6_best_69 : decode cX6_best 69 = .ok (.istore 4, 2) := by decide +kernel
theorem dX6_best_71 : decode cX6_best 71 = .ok (.iinc 5 1, 3) := by decide +kernel
theorem dX6_best_74 : decode cX6_best 74 = .ok (.goto (-47), 3) := by decide +kernel
theorem dX6_best_77 : decode cX6_best 77 = .ok (.aload_n 0, 1) := by decide +kernel
theorem dX6_best_78 : decode cX6_best 78 = .ok (.iload_n 2, 1) := by decide +kernel
theorem dX6_best_79 : decode cX6_best 79 = .ok (.putfield 14, 3) := by decide +kernel
theorem dX6_best_82 : decode cX6_best 82 = .ok (.iload_n 1, 1) := by decide +kernel
theorem dX6_best_83 : decode cX6_best 83 = .ok (.ifCond .ne 7, 3) := by decide +kernel
theorem dX6_best_86 : decode cX6_best 86 = .ok (.iload_n 3, 1) := by decide +kernel
theorem dX6_best_87 : decode cX6_best 87 = .ok (.goto 5, 3) := by decide +kernel
theorem dX6_best_90 : decode cX6_best 90 = .ok (.iload 4, 2) := by decide +kernel
theorem dX6_best_92 : decode cX6_best 92 = .ok (.ireturn, 1) := by decide +kernel
theorem dX6_station_0 : decode cX6_station 0 = .ok (.iload_n 1, 1) := by decide +kernel
theorem dX6_station_1 : decode cX6_station 1 = .ok (.i2l, 1) := by decide +kernel
theorem dX6_station_2 : decode cX6_station 2 = .ok (.ldc2_w 160, 3) := by decide +kernel
theorem dX6_station_5 : decode cX6_station 5 = .ok (.ldc2_w 162, 3) := by decide +kernel
theorem dX6_station_8 : decode cX6_station 8 = .ok (.invokestatic 65, 3) := by decide +kernel
theorem dX6_station_11 : decode cX6_station 11 = .ok (.ifCond .eq 55, 3) := by decide +kernel
theorem dX6_station_14 : decode cX6_station 14 = .ok (.iload_n 2, 1) := by decide +kernel
theorem dX6_station_15 : decode cX6_station 15 = .ok (.i2l, 1) := by decide +kernel
theorem dX6_station_16 : decode cX6_station 16 = .ok (.ldc2_w 160, 3) := by decide +kernel
theorem dX6_station_19 : decode cX6_station 19 = .ok (.ldc2_w 162, 3) := by decide +kernel
theorem dX6_station_22 : decode cX6_station 22 = .ok (.invokestatic 65, 3) := by decide +kernel
theorem dX6_station_25 : decode cX6_station 25 = .ok (.ifCond .eq 41, 3) := by decide +kernel
theorem dX6_station_28 : decode cX6_station 28 = .ok (.iload_n 3, 1) := by decide +kernel
theorem dX6_station_29 : decode cX6_station 29 = .ok (.i2l, 1) := by decide +kernel
theorem dX6_station_30 : decode cX6_station 30 = .ok (.ldc2_w 160, 3) := by decide +kernel
theorem dX6_station_33 : decode cX6_station 33 = .ok (.ldc2_w 162, 3) := by decide +kernel
theorem dX6_station_36 : decode cX6_station 36 = .ok (.invokestatic 65, 3) := by decide +kernel
theorem dX6_station_39 : decode cX6_station 39 = .ok (.ifCond .eq 27, 3) := by decide +kernel
theorem dX6_station_42 : decode cX6_station 42 = .ok (.iload 4, 2) := by decide +kernel
theorem dX6_station_44 : decode cX6_station 44 = .ok (.i2l, 1) := by decide +kernel
theorem dX6_station_45 : decode cX6_station 45 = .ok (.ldc2_w 160, 3) := by decide +kernel
theorem dX6_station_48 : decode cX6_station 48 = .ok (.ldc2_w 162, 3) := by decide +kernel
theorem dX6_station_51 : decode cX6_station 51 = .ok (.invokestatic 65, 3) := by decide +kernel
theorem dX6_station_54 : decode cX6_station 54 = .ok (.ifCond .eq 12, 3) := by decide +kernel
theorem dX6_station_57 : decode cX6_station 57 = .ok (.iload_n 3, 1) := by decide +kernel
theorem dX6_station_58 : decode cX6_station 58 = .ok (.ifCond .ne 12, 3) := by decide +kernel
theorem dX6_station_61 : decode cX6_station 61 = .ok (.iload 4, 2) := by decide +kernel
theorem dX6_station_63 : decode cX6_station 63 = .ok (.ifCond .ne 7, 3) := by decide +kernel
theorem dX6_station_66 : decode cX6_station 66 = .ok (.sipush (-1002), 3) := by decide +kernel
theorem dX6_station_69 : decode cX6_station 69 = .ok (.ireturn, 1) := by decide +kernel
theorem dX6_station_70 : decode cX6_station 70 = .ok (.aload_n 0, 1) := by decide +kernel
theorem dX6_station_71 : decode cX6_station 71 = .ok (.getfield 99, 3) := by decide +kernel
theorem dX6_station_74 : decode cX6_station 74 = .ok (.bipush 6, 2) := by decide +kernel
theorem dX6_station_76 : decode cX6_station 76 = .ok (.if_icmp .ne 7, 3) := by decide +kernel
theorem dX6_station_79 : decode cX6_station 79 = .ok (.sipush (-1004), 3) := by decide +kernel
theorem dX6_station_82 : decode cX6_station 82 = .ok (.ireturn, 1) := by decide +kernel
theorem dX6_station_83 : decode cX6_station 83 = .ok (.aload_n 0, 1) := by decide +kernel
theorem dX6_station_84 : decode cX6_station 84 = .ok (.getfield 30, 3) := by decide +kernel
theorem dX6_station_87 : decode cX6_station 87 = .ok (.aload_n 0, 1) := by decide +kernel
theorem dX6_station_88 : decode cX6_station 88 = .ok (.getfield 99, 3) := by decide +kernel
theorem dX6_station_91 : decode cX6_station 91 = .ok (.iload_n 1, 1) := by decide +kernel
theorem dX6_station_92 : decode cX6_station 92 = .ok (.i2l, 1) := by decide +kernel
theorem dX6_station_93 : decode cX6_station 93 = .ok (.lastore, 1) := by decide +kernel
theorem dX6_station_94 : decode cX6_station 94 = .ok (.aload_n 0, 1) := by decide +kernel
theorem dX6_station_95 : decode cX6_station 95 = .ok (.getfield 34, 3) := by decide +kernel
theorem dX6_station_98 : decode cX6_station 98 = .ok (.aload_n 0, 1) := by decide +kernel
theorem dX6_station_99 : decode cX6_station 99 = .ok (.getfield 99, 3) := by decide +kernel
theorem dX6_station_102 : decode cX6_station 102 = .ok (.iload_n 2, 1) := by decide +kernel
theorem dX6_station_103 : decode cX6_station 103 = .ok (.i2l, 1) := by decide +kernel
theorem dX6_station_104 : decode cX6_station 104 = .ok (.lastore, 1) := by decide +kernel
theorem dX6_station_105 : decode cX6_station 105 = .ok (.aload_n 0, 1) := by decide +kernel
theorem dX6_station_106 : decode cX6_station 106 = .ok (.getfield 37, 3) := by decide +kernel
theorem dX6_station_109 : decode cX6_station 109 = .ok (.aload_n 0, 1) := by decide +kernel
theorem dX6_station_110 : decode cX6_station 110 = .ok (.getfield 99, 3) := by decide +kernel
theorem dX6_station_113 : decode cX6_station 113 = .ok (.iload_n 3, 1) := by decide +kernel
theorem dX6_station_114 : decode cX6_station 114 = .ok (.i2l, 1) := by decide +kernel
theorem dX6_station_115 : decode cX6_station 115 = .ok (.lastore, 1) := by decide +kernel
theorem dX6_station_116 : decode cX6_station 116 = .ok (.aload_n 0, 1) := by decide +kernel
theorem dX6_station_117 : decode cX6_station 117 = .ok (.getfield 40, 3) := by decide +kernel
theorem dX6_station_120 : decode cX6_station 120 = .ok (.aload_n 0, 1) := by decide +kernel
theorem dX6_station_121 : decode cX6_station 121 = .ok (.getfield 99, 3) := by decide +kernel
theorem dX6_station_124 : decode cX6_station 124 = .ok (.iload 4, 2) := by decide +kernel
theorem dX6_station_126 : decode cX6_station 126 = .ok (.i2l, 1) := by decide +kernel
theorem dX6_station_127 : decode cX6_station 127 = .ok (.lastore, 1) := by decide +kernel
theorem dX6_station_128 : decode cX6_station 128 = .ok (.aload_n 0, 1) := by decide +kernel
theorem dX6_station_129 : decode cX6_station 129 = .ok (.dup, 1) := by decide +kernel
theorem dX6_station_130 : decode cX6_station 130 = .ok (.getfield 99, 3) := by decide +kernel
theorem dX6_station_133 : decode cX6_station 133 = .ok (.iconst 1, 1) := by decide +kernel
theorem dX6_station_134 : decode cX6_station 134 = .ok (.iadd, 1) := by decide +kernel
theorem dX6_station_135 : decode cX6_station 135 = .ok (.putfield 99, 3) := by decide +kernel
theorem dX6_station_138 : decode cX6_station 138 = .ok (.aload_n 0, 1) := by decide +kernel
theorem dX6_station_139 : decode cX6_station 139 = .ok (.getfield 99, 3) := by decide +kernel
theorem dX6_station_142 : decode cX6_station 142 = .ok (.iconst 1, 1) := by decide +kernel
theorem dX6_station_143 : decode cX6_station 143 = .ok (.isub, 1) := by decide +kernel
theorem dX6_station_144 : decode cX6_station 144 = .ok (.ireturn, 1) := by decide +kernel
theorem dX6_isStation_0 : decode cX6_isStation 0 = .ok (.iload_n 1, 1) := by decide +kernel
theorem dX6_isStation_1 : decode cX6_isStation 1 = .ok (.i2l, 1) := by decide +kernel
theorem dX6_isStation_2 : decode cX6_isStation 2 = .ok (.lconst 0, 1) := by decide +kernel
theorem dX6_isStation_3 : decode cX6_isStation 3 = .ok (.aload_n 0, 1) := by decide +kernel
theorem dX6_isStation_4 : decode cX6_isStation 4 = .ok (.getfield 99, 3) := by decide +kernel
theorem dX6_isStation_7 : decode cX6_isStation 7 = .ok (.iconst 1, 1) := by decide +kernel
theorem dX6_isStation_8 : decode cX6_isStation 8 = .ok (.isub, 1) := by decide +kernel
theorem dX6_isStation_9 : decode cX6_isStation 9 = .ok (.i2l, 1) := by decide +kernel
theorem dX6_isStation_10 : decode cX6_isStation 10 = .ok (.invokestatic 65, 3) := by decide +kernel
theorem dX6_isStation_13 : decode cX6_isStation 13 = .ok (.ireturn, 1) := by decide +kernel
theorem dX6_look_0 : decode cX6_look 0 = .ok (.aload_n 0, 1) := by decide +kernel
theorem dX6_look_1 : decode cX6_look 1 = .ok (.iload_n 1, 1) := by decide +kernel
theorem dX6_look_2 : decode cX6_look 2 = .ok (.invokevirtual 164, 3) := by decide +kernel
theorem dX6_look_5 : decode cX6_look 5 = .ok (.ifCond .ne 7, 3) := by decide +kernel
theorem dX6_look_8 : decode cX6_look 8 = .ok (.sipush (-1001), 3) := by decide +kernel
theorem dX6_look_11 : decode cX6_look 11 = .ok (.ireturn, 1) := by decide +kernel
theorem dX6_look_12 : decode cX6_look 12 = .ok (.iload_n 2, 1) := by decide +kernel
theorem dX6_look_13 : decode cX6_look 13 = .ok (.i2l, 1) := by decide +kernel
theorem dX6_look_14 : decode cX6_look 14 = .ok (.ldc2_w 160, 3) := by decide +kernel
theorem dX6_look_17 : decode cX6_look 17 = .ok (.ldc2_w 162, 3) := by decide +kernel
theorem dX6_look_20 : decode cX6_look 20 = .ok (.invokestatic 65, 3) := by decide +kernel
theorem dX6_look_23 : decode cX6_look 23 = .ok (.ifCond .eq 25, 3) := by decide +kernel
theorem dX6_look_26 : decode cX6_look 26 = .ok (.iload_n 3, 1) := by decide +kernel
theorem dX6_look_27 : decode cX6_look 27 = .ok (.i2l, 1) := by decide +kernel
theorem dX6_look_28 : decode cX6_look 28 = .ok (.ldc2_w 160, 3) := by decide +kernel
theorem dX6_look_31 : decode cX6_look 31 = .ok (.ldc2_w 162, 3) := by decide +kernel
theorem dX6_look_34 : decode cX6_look 34 = .ok (.invokestatic 65, 3) := by decide +kernel
theorem dX6_look_37 : decode cX6_look 37 = .ok (.ifCond .eq 11, 3) := by decide +kernel
theorem dX6_look_40 : decode cX6_look 40 = .ok (.iload_n 2, 1) := by decide +kernel
theorem dX6_look_41 : decode cX6_look 41 = .ok (.ifCond .ne 11, 3) := by decide +kernel
theorem dX6_look_44 : decode cX6_look 44 = .ok (.iload_n 3, 1) := by decide +kernel
theorem dX6_look_45 : decode cX6_look 45 = .ok (.ifCond .ne 7, 3) := by decide +kernel
theorem dX6_look_48 : decode cX6_look 48 = .ok (.sipush (-1002), 3) := by decide +kernel
theorem dX6_look_51 : decode cX6_look 51 = .ok (.ireturn, 1) := by decide +kernel
theorem dX6_look_52 : decode cX6_look 52 = .ok (.aload_n 0, 1) := by decide +kernel
theorem dX6_look_53 : decode cX6_look 53 = .ok (.getfield 37, 3) := by decide +kernel
