theorem dX6_take_8 : decode cX6_take 8 = .ok (.iload_n 2, 1) := by decide +kernel
theorem dX6_take_9 : decode cX6_take 9 = .ok (.if_icmp .ge 22, 3) := by decide +kernel
theorem dX6_take_12 : decode cX6_take 12 = .ok (.aload_n 0, 1) := by decide +kernel
theorem dX6_take_13 : decode cX6_take 13 = .ok (.getfield 43, 3) := by decide +kernel
theorem dX6_take_16 : decode cX6_take 16 = .ok (.iload_n 3, 1) := by decide +kernel
theorem dX6_take_17 : decode cX6_take 17 = .ok (.aload_n 0, 1) := by decide +kernel
theorem dX6_take_18 : decode cX6_take 18 = .ok (.iload_n 1, 1) := by decide +kernel
theorem dX6_take_19 : decode cX6_take 19 = .ok (.iload_n 3, 1) := by decide +kernel
theorem dX6_take_20 : decode cX6_take 20 = .ok (.iadd, 1) := by decide +kernel
theorem dX6_take_21 : decode cX6_take 21 = .ok (.invokevirtual 90, 3) := by decide +kernel
theorem dX6_take_24 : decode cX6_take 24 = .ok (.iastore, 1) := by decide +kernel
theorem dX6_take_25 : decode cX6_take 25 = .ok (.iinc 3 1, 3) := by decide +kernel
theorem dX6_take_28 : decode cX6_take 28 = .ok (.goto (-21), 3) := by decide +kernel
theorem dX6_take_31 : decode cX6_take 31 = .ok (.return_, 1) := by decide +kernel
theorem dX6_fits_0 : decode cX6_fits 0 = .ok (.iload_n 1, 1) := by decide +kernel
theorem dX6_fits_1 : decode cX6_fits 1 = .ok (.iconst 1, 1) := by decide +kernel
theorem dX6_fits_2 : decode cX6_fits 2 = .ok (.iadd, 1) := by decide +kernel
theorem dX6_fits_3 : decode cX6_fits 3 = .ok (.istore_n 2, 1) := by decide +kernel
theorem dX6_fits_4 : decode cX6_fits 4 = .ok (.aload_n 0, 1) := by decide +kernel
theorem dX6_fits_5 : decode cX6_fits 5 = .ok (.getfield 109, 3) := by decide +kernel
theorem dX6_fits_8 : decode cX6_fits 8 = .ok (.iload_n 1, 1) := by decide +kernel
theorem dX6_fits_9 : decode cX6_fits 9 = .ok (.isub, 1) := by decide +kernel
theorem dX6_fits_10 : decode cX6_fits 10 = .ok (.istore_n 3, 1) := by decide +kernel
theorem dX6_fits_11 : decode cX6_fits 11 = .ok (.iconst 0, 1) := by decide +kernel
theorem dX6_fits_12 : decode cX6_fits 12 = .ok (.istore 4, 2) := by decide +kernel
theorem dX6_fits_14 : decode cX6_fits 14 = .ok (.iload 4, 2) := by decide +kernel
theorem dX6_fits_16 : decode cX6_fits 16 = .ok (.iload_n 3, 1) := by decide +kernel
theorem dX6_fits_17 : decode cX6_fits 17 = .ok (.if_icmp .ge 72, 3) := by decide +kernel
theorem dX6_fits_20 : decode cX6_fits 20 = .ok (.iconst 0, 1) := by decide +kernel
theorem dX6_fits_21 : decode cX6_fits 21 = .ok (.istore 5, 2) := by decide +kernel
theorem dX6_fits_23 : decode cX6_fits 23 = .ok (.iload 5, 2) := by decide +kernel
theorem dX6_fits_25 : decode cX6_fits 25 = .ok (.iload_n 1, 1) := by decide +kernel
theorem dX6_fits_26 : decode cX6_fits 26 = .ok (.if_icmp .ge 36, 3) := by decide +kernel
theorem dX6_fits_29 : decode cX6_fits 29 = .ok (.aload_n 0, 1) := by decide +kernel
theorem dX6_fits_30 : decode cX6_fits 30 = .ok (.getfield 49, 3) := by decide +kernel
theorem dX6_fits_33 : decode cX6_fits 33 = .ok (.bipush 25, 2) := by decide +kernel
theorem dX6_fits_35 : decode cX6_fits 35 = .ok (.iload 4, 2) := by decide +kernel
theorem dX6_fits_37 : decode cX6_fits 37 = .ok (.imul, 1) := by decide +kernel
theorem dX6_fits_38 : decode cX6_fits 38 = .ok (.iload 5, 2) := by decide +kernel
theorem dX6_fits_40 : decode cX6_fits 40 = .ok (.iadd, 1) := by decide +kernel
theorem dX6_fits_41 : decode cX6_fits 41 = .ok (.aload_n 0, 1) := by decide +kernel
theorem dX6_fits_42 : decode cX6_fits 42 = .ok (.getfield 43, 3) := by decide +kernel
theorem dX6_fits_45 : decode cX6_fits 45 = .ok (.iload_n 1, 1) := by decide +kernel
theorem dX6_fits_46 : decode cX6_fits 46 = .ok (.iload 4, 2) := by decide +kernel
theorem dX6_fits_48 : decode cX6_fits 48 = .ok (.iadd, 1) := by decide +kernel
theorem dX6_fits_49 : decode cX6_fits 49 = .ok (.iconst 1, 1) := by decide +kernel
theorem dX6_fits_50 : decode cX6_fits 50 = .ok (.isub, 1) := by decide +kernel
theorem dX6_fits_51 : decode cX6_fits 51 = .ok (.iload 5, 2) := by decide +kernel
theorem dX6_fits_53 : decode cX6_fits 53 = .ok (.isub, 1) := by decide +kernel
theorem dX6_fits_54 : decode cX6_fits 54 = .ok (.iaload, 1) := by decide +kernel
theorem dX6_fits_55 : decode cX6_fits 55 = .ok (.iastore, 1) := by decide +kernel
theorem dX6_fits_56 : decode cX6_fits 56 = .ok (.iinc 5 1, 3) := by decide +kernel
theorem dX6_fits_59 : decode cX6_fits 59 = .ok (.goto (-36), 3) := by decide +kernel
theorem dX6_fits_62 : decode cX6_fits 62 = .ok (.aload_n 0, 1) := by decide +kernel
theorem dX6_fits_63 : decode cX6_fits 63 = .ok (.getfield 49, 3) := by decide +kernel
theorem dX6_fits_66 : decode cX6_fits 66 = .ok (.bipush 25, 2) := by decide +kernel
theorem dX6_fits_68 : decode cX6_fits 68 = .ok (.iload 4, 2) := by decide +kernel
theorem dX6_fits_70 : decode cX6_fits 70 = .ok (.imul, 1) := by decide +kernel
theorem dX6_fits_71 : decode cX6_fits 71 = .ok (.iload_n 1, 1) := by decide +kernel
theorem dX6_fits_72 : decode cX6_fits 72 = .ok (.iadd, 1) := by decide +kernel
theorem dX6_fits_73 : decode cX6_fits 73 = .ok (.aload_n 0, 1) := by decide +kernel
theorem dX6_fits_74 : decode cX6_fits 74 = .ok (.getfield 43, 3) := by decide +kernel
theorem dX6_fits_77 : decode cX6_fits 77 = .ok (.iload_n 1, 1) := by decide +kernel
theorem dX6_fits_78 : decode cX6_fits 78 = .ok (.iload 4, 2) := by decide +kernel
theorem dX6_fits_80 : decode cX6_fits 80 = .ok (.iadd, 1) := by decide +kernel
theorem dX6_fits_81 : decode cX6_fits 81 = .ok (.iaload, 1) := by decide +kernel
theorem dX6_fits_82 : decode cX6_fits 82 = .ok (.iastore, 1) := by decide +kernel
theorem dX6_fits_83 : decode cX6_fits 83 = .ok (.iinc 4 1, 3) := by decide +kernel
theorem dX6_fits_86 : decode cX6_fits 86 = .ok (.goto (-72), 3) := by decide +kernel
theorem dX6_fits_89 : decode cX6_fits 89 = .ok (.iconst 0, 1) := by decide +kernel
theorem dX6_fits_90 : decode cX6_fits 90 = .ok (.istore 4, 2) := by decide +kernel
theorem dX6_fits_92 : decode cX6_fits 92 = .ok (.iconst 0, 1) := by decide +kernel
theorem dX6_fits_93 : decode cX6_fits 93 = .ok (.istore 5, 2) := by decide +kernel
theorem dX6_fits_95 : decode cX6_fits 95 = .ok (.iload 5, 2) := by decide +kernel
theorem dX6_fits_97 : decode cX6_fits 97 = .ok (.iload_n 1, 1) := by decide +kernel
theorem dX6_fits_98 : decode cX6_fits 98 = .ok (.if_icmp .ge 19, 3) := by decide +kernel
theorem dX6_fits_101 : decode cX6_fits 101 = .ok (.aload_n 0, 1) := by decide +kernel
theorem dX6_fits_102 : decode cX6_fits 102 = .ok (.getfield 46, 3) := by decide +kernel
theorem dX6_fits_105 : decode cX6_fits 105 = .ok (.iload 5, 2) := by decide +kernel
theorem dX6_fits_107 : decode cX6_fits 107 = .ok (.iconst 1, 1) := by decide +kernel
theorem dX6_fits_108 : decode cX6_fits 108 = .ok (.iadd, 1) := by decide +kernel
theorem dX6_fits_109 : decode cX6_fits 109 = .ok (.iconst 0, 1) := by decide +kernel
theorem dX6_fits_110 : decode cX6_fits 110 = .ok (.iastore, 1) := by decide +kernel
theorem dX6_fits_111 : decode cX6_fits 111 = .ok (.iinc 5 1, 3) := by decide +kernel
theorem dX6_fits_114 : decode cX6_fits 114 = .ok (.goto (-19), 3) := by decide +kernel
theorem dX6_fits_117 : decode cX6_fits 117 = .ok (.iconst 0, 1) := by decide +kernel
theorem dX6_fits_118 : decode cX6_fits 118 = .ok (.istore 5, 2) := by decide +kernel
theorem dX6_fits_120 : decode cX6_fits 120 = .ok (.iload 5, 2) := by decide +kernel
theorem dX6_fits_122 : decode cX6_fits 122 = .ok (.iload_n 2, 1) := by decide +kernel
theorem dX6_fits_123 : decode cX6_fits 123 = .ok (.if_icmp .ge 82, 3) := by decide +kernel
theorem dX6_fits_126 : decode cX6_fits 126 = .ok (.iload 4, 2) := by decide +kernel
theorem dX6_fits_128 : decode cX6_fits 128 = .ok (.iload_n 3, 1) := by decide +kernel
theorem dX6_fits_129 : decode cX6_fits 129 = .ok (.if_icmp .ge 76, 3) := by decide +kernel
theorem dX6_fits_132 : decode cX6_fits 132 = .ok (.iload 4, 2) := by decide +kernel
theorem dX6_fits_134 : decode cX6_fits 134 = .ok (.istore 6, 2) := by decide +kernel
theorem dX6_fits_136 : decode cX6_fits 136 = .ok (.iload 6, 2) := by decide +kernel
theorem dX6_fits_138 : decode cX6_fits 138 = .ok (.iload_n 3, 1) := by decide +kernel
theorem dX6_fits_139 : decode cX6_fits 139 = .ok (.if_icmp .ge 25, 3) := by decide +kernel
theorem dX6_fits_142 : decode cX6_fits 142 = .ok (.aload_n 0, 1) := by decide +kernel
theorem dX6_fits_143 : decode cX6_fits 143 = .ok (.getfield 49, 3) := by decide +kernel
theorem dX6_fits_146 : decode cX6_fits 146 = .ok (.bipush 25, 2) := by decide +kernel
theorem dX6_fits_148 : decode cX6_fits 148 = .ok (.iload 6, 2) := by decide +kernel
theorem dX6_fits_150 : decode cX6_fits 150 = .ok (.imul, 1) := by decide +kernel
theorem dX6_fits_151 : decode cX6_fits 151 = .ok (.iload 5, 2) := by decide +kernel
theorem dX6_fits_153 : decode cX6_fits 153 = .ok (.iadd, 1) := by decide +kernel
theorem dX6_fits_154 : decode cX6_fits 154 = .ok (.iaload, 1) := by decide +kernel
theorem dX6_fits_155 : decode cX6_fits 155 = .ok (.ifCond .ne 9, 3) := by decide +kernel
theorem dX6_fits_158 : decode cX6_fits 158 = .ok (.iinc 6 1, 3) := by decide +kernel
theorem dX6_fits_161 : decode cX6_fits 161 = .ok (.goto (-25), 3) := by decide +kernel
theorem dX6_fits_164 : decode cX6_fits 164 = .ok (.iload 6, 2) := by decide +kernel
theorem dX6_fits_166 : decode cX6_fits 166 = .ok (.iload_n 3, 1) := by decide +kernel
theorem dX6_fits_167 : decode cX6_fits 167 = .ok (.if_icmp .ge 11, 3) := by decide +kernel
theorem dX6_fits_170 : decode cX6_fits 170 = .ok (.iload 5, 2) := by decide +kernel
theorem dX6_fits_172 : decode cX6_fits 172 = .ok (.iload_n 1, 1) := by decide +kernel
theorem dX6_fits_173 : decode cX6_fits 173 = .ok (.if_icmp .ne 5, 3) := by decide +kernel
theorem dX6_fits_176 : decode cX6_fits 176 = .ok (.iconst 0, 1) := by decide +kernel
theorem dX6_fits_177 : decode cX6_fits 177 = .ok (.ireturn, 1) := by decide +kernel
theorem dX6_fits_178 : decode cX6_fits 178 = .ok (.iload 6, 2) := by decide +kernel
theorem dX6_fits_180 : decode cX6_fits 180 = .ok (.iload_n 3, 1) := by decide +kernel
theorem dX6_fits_181 : decode cX6_fits 181 = .ok (.if_icmp .ge 18, 3) := by decide +kernel
theorem dX6_fits_184 : decode cX6_fits 184 = .ok (.aload_n 0, 1) := by decide +kernel
theorem dX6_fits_185 : decode cX6_fits 185 = .ok (.iload 6, 2) := by decide +kernel
theorem dX6_fits_187 : decode cX6_fits 187 = .ok (.iload 4, 2) := by decide +kernel
theorem dX6_fits_189 : decode cX6_fits 189 = .ok (.iload 5, 2) := by decide +kernel
theorem dX6_fits_191 : decode cX6_fits 191 = .ok (.iload_n 2, 1) := by decide +kernel
theorem dX6_fits_192 : decode cX6_fits 192 = .ok (.iload_n 3, 1) := by decide +kernel
theorem dX6_fits_193 : decode cX6_fits 193 = .ok (.invokevirtual 112, 3) := by decide +kernel
theorem dX6_fits_196 : decode cX6_fits 196 = .ok (.iinc 4 1, 3) := by decide +kernel
theorem dX6_fits_199 : decode cX6_fits 199 = .ok (.iinc 5 1, 3) := by decide +kernel
theorem dX6_fits_202 : decode cX6_fits 202 = .ok (.goto (-82), 3) := by decide +kernel
theorem dX6_fits_205 : decode cX6_fits 205 = .ok (.iconst 0, 1) := by decide +kernel
theorem dX6_fits_206 : decode cX6_fits 206 = .ok (.istore 5, 2) := by decide +kernel
theorem dX6_fits_208 : decode cX6_fits 208 = .ok (.iload 5, 2) := by decide +kernel
theorem dX6_fits_210 : decode cX6_fits 210 = .ok (.iload 4, 2) := by decide +kernel
theorem dX6_fits_212 : decode cX6_fits 212 = .ok (.if_icmp .ge 55, 3) := by decide +kernel
theorem dX6_fits_215 : decode cX6_fits 215 = .ok (.iconst 0, 1) := by decide +kernel
theorem dX6_fits_216 : decode cX6_fits 216 = .ok (.istore 6, 2) := by decide +kernel
theorem dX6_fits_218 : decode cX6_fits 218 = .ok (.aload_n 0, 1) := by decide +kernel
theorem dX6_fits_219 : decode cX6_fits 219 = .ok (.getfield 49, 3) := by decide +kernel
theorem dX6_fits_222 : decode cX6_fits 222 = .ok (.bipush 25, 2) := by decide +kernel
theorem dX6_fits_224 : decode cX6_fits 224 = .ok (.iload 5, 2) := by decide +kernel
theorem dX6_fits_226 : decode cX6_fits 226 = .ok (.imul, 1) := by decide +kernel
theorem dX6_fits_227 : decode cX6_fits 227 = .ok (.iload 6, 2) := by decide +kernel
theorem dX6_fits_229 : decode cX6_fits 229 = .ok (.iadd, 1) := by decide +kernel
theorem dX6_fits_230 : decode cX6_fits 230 = .ok (.iaload, 1) := by decide +kernel
theorem dX6_fits_231 : decode cX6_fits 231 = .ok (.ifCond .ne 9, 3) := by decide +kernel
theorem dX6_fits_234 : decode cX6_fits 234 = .ok (.iinc 6 1, 3) := by decide +kernel
theorem dX6_fits_237 : decode cX6_fits 237 = .ok (.goto (-19), 3) := by decide +kernel
theorem dX6_fits_240 : decode cX6_fits 240 = .ok (.aload_n 0, 1) := by decide +kernel
theorem dX6_fits_241 : decode cX6_fits 241 = .ok (.getfield 46, 3) := by decide +kernel
theorem dX6_fits_244 : decode cX6_fits 244 = .ok (.iload 6, 2) := by decide +kernel
theorem dX6_fits_246 : decode cX6_fits 246 = .ok (.iconst 1, 1) := by decide +kernel
theorem dX6_fits_247 : decode cX6_fits 247 = .ok (.iadd, 1) := by decide +kernel
theorem dX6_fits_248 : decode cX6_fits 248 = .ok (.aload_n 0, 1) := by decide +kernel
theorem dX6_fits_249 : decode cX6_fits 249 = .ok (.getfield 49, 3) := by decide +kernel
theorem dX6_fits_252 : decode cX6_fits 252 = .ok (.bipush 25, 2) := by decide +kernel
theorem dX6_fits_254 : decode cX6_fits 254 = .ok (.iload 5, 2) := by decide +kernel
theorem dX6_fits_256 : decode cX6_fits 256 = .ok (.imul, 1) := by decide +kernel
theorem dX6_fits_257 : decode cX6_fits 257 = .ok (.iload_n 1, 1) := by decide +kernel
theorem dX6_fits_258 : decode cX6_fits 258 = .ok (.iadd, 1) := by decide +kernel
theorem dX6_fits_259 : decode cX6_fits 259 = .ok (.iaload, 1) := by decide +kernel
theorem dX6_fits_260 : decode cX6_fits 260 = .ok (.iastore, 1) := by decide +kernel
theorem dX6_fits_261 : decode cX6_fits 261 = .ok (.iinc 5 1, 3) := by decide +kernel
theorem dX6_fits_264 : decode cX6_fits 264 = .ok (.goto (-56), 3) := by decide +kernel
theorem dX6_fits_267 : decode cX6_fits 267 = .ok (.iconst 1, 1) := by decide +kernel
theorem dX6_fits_268 : decode cX6_fits 268 = .ok (.ireturn, 1) := by decide +kernel
theorem dX6_step_0 : decode cX6_step 0 = .ok (.aload_n 0, 1) := by decide +kernel
theorem dX6_step_1 : decode cX6_step 1 = .ok (.aload_n 0, 1) := by decide +kernel
theorem dX6_step_2 : decode cX6_step 2 = .ok (.getfield 49, 3) := by decide +kernel
theorem dX6_step_5 : decode cX6_step 5 = .ok (.bipush 25, 2) := by decide +kernel
theorem dX6_step_7 : decode cX6_step 7 = .ok (.iload_n 1, 1) := by decide +kernel
theorem dX6_step_8 : decode cX6_step 8 = .ok (.imul, 1) := by decide +kernel
theorem dX6_step_9 : decode cX6_step 9 = .ok (.iload_n 3, 1) := by decide +kernel
theorem dX6_step_10 : decode cX6_step 10 = .ok (.iadd, 1) := by decide +kernel
theorem dX6_step_11 : decode cX6_step 11 = .ok (.iaload, 1) := by decide +kernel
theorem dX6_step_12 : decode cX6_step 12 = .ok (.invokevirtual 116, 3) := by decide +kernel
theorem dX6_step_15 : decode cX6_step 15 = .ok (.istore 6, 2) := by decide +kernel
theorem dX6_step_17 : decode cX6_step 17 = .ok (.iconst 0, 1) := by decide +kernel
theorem dX6_step_18 : decode cX6_step 18 = .ok (.istore 7, 2) := by decide +kernel
theorem dX6_step_20 : decode cX6_step 20 = .ok (.iload 7, 2) := by decide +kernel
theorem dX6_step_22 : decode cX6_step 22 = .ok (.iload 4, 2) := by decide +kernel
theorem dX6_step_24 : decode cX6_step 24 = .ok (.if_icmp .ge 69, 3) := by decide +kernel
theorem dX6_step_27 : decode cX6_step 27 = .ok (.aload_n 0, 1) := by decide +kernel
theorem dX6_step_28 : decode cX6_step 28 = .ok (.getfield 49, 3) := by decide +kernel
theorem dX6_step_31 : decode cX6_step 31 = .ok (.bipush 25, 2) := by decide +kernel
theorem dX6_step_33 : decode cX6_step 33 = .ok (.iload_n 1, 1) := by decide +kernel
theorem dX6_step_34 : decode cX6_step 34 = .ok (.imul, 1) := by decide +kernel
theorem dX6_step_35 : decode cX6_step 35 = .ok (.iload 7, 2) := by decide +kernel
theorem dX6_step_37 : decode cX6_step 37 = .ok (.iadd, 1) := by decide +kernel
theorem dX6_step_38 : decode cX6_step 38 = .ok (.iaload, 1) := by decide +kernel
theorem dX6_step_39 : decode cX6_step 39 = .ok (.iload 6, 2) := by decide +kernel
theorem dX6_step_41 : decode cX6_step 41 = .ok (.imul, 1) := by decide +kernel
theorem dX6_step_42 : decode cX6_step 42 = .ok (.aload_n 0, 1) := by decide +kernel
theorem dX6_step_43 : decode cX6_step 43 = .ok (.getfield 7, 3) := by decide +kernel
theorem dX6_step_46 : decode cX6_step 46 = .ok (.irem, 1) := by decide +kernel
theorem dX6_step_47 : decode cX6_step 47 = .ok (.istore 8, 2) := by decide +kernel
theorem dX6_step_49 : decode cX6_step 49 = .ok (.aload_n 0, 1) := by decide +kernel
theorem dX6_step_50 : decode cX6_step 50 = .ok (.getfield 49, 3) := by decide +kernel
theorem dX6_step_53 : decode cX6_step 53 = .ok (.bipush 25, 2) := by decide +kernel
theorem dX6_step_55 : decode cX6_step 55 = .ok (.iload_n 1, 1) := by decide +kernel
theorem dX6_step_56 : decode cX6_step 56 = .ok (.imul, 1) := by decide +kernel
theorem dX6_step_57 : decode cX6_step 57 = .ok (.iload 7, 2) := by decide +kernel
theorem dX6_step_59 : decode cX6_step 59 = .ok (.iadd, 1) := by decide +kernel
theorem dX6_step_60 : decode cX6_step 60 = .ok (.aload_n 0, 1) := by decide +kernel
theorem dX6_step_61 : decode cX6_step 61 = .ok (.getfield 49, 3) := by decide +kernel
theorem dX6_step_64 : decode cX6_step 64 = .ok (.bipush 25, 2) := by decide +kernel
theorem dX6_step_66 : decode cX6_step 66 = .ok (.iload_n 2, 1) := by decide +kernel
theorem dX6_step_67 : decode cX6_step 67 = .ok (.imul, 1) := by decide +kernel
theorem dX6_step_68 : decode cX6_step 68 = .ok (.iload 7, 2) := by decide +kernel
theorem dX6_step_70 : decode cX6_step 70 = .ok (.iadd, 1) := by decide +kernel
theorem dX6_step_71 : decode cX6_step 71 = .ok (.iaload, 1) := by decide +kernel
theorem dX6_step_72 : decode cX6_step 72 = .ok (.iastore, 1) := by decide +kernel
theorem dX6_step_73 : decode cX6_step 73 = .ok (.aload_n 0, 1) := by decide +kernel
theorem dX6_step_74 : decode cX6_step 74 = .ok (.getfield 49, 3) := by decide +kernel
theorem dX6_step_77 : decode cX6_step 77 = .ok (.bipush 25, 2) := by decide +kernel
theorem dX6_step_79 : decode cX6_step 79 = .ok (.iload_n 2, 1) := by decide +kernel
theorem dX6_step_80 : decode cX6_step 80 = .ok (.imul, 1) := by decide +kernel
theorem dX6_step_81 : decode cX6_step 81 = .ok (.iload 7, 2) := by decide +kernel
theorem dX6_step_83 : decode cX6_step 83 = .ok (.iadd, 1) := by decide +kernel
theorem dX6_step_84 : decode cX6_step 84 = .ok (.iload 8, 2) := by decide +kernel
theorem dX6_step_86 : decode cX6_step 86 = .ok (.iastore, 1) := by decide +kernel
theorem dX6_step_87 : decode cX6_step 87 = .ok (.iinc 7 1, 3) := by decide +kernel
theorem dX6_step_90 : decode cX6_step 90 = .ok (.goto (-70), 3) := by decide +kernel
theorem dX6_step_93 : decode cX6_step 93 = .ok (.iconst 0, 1) := by decide +kernel
theorem dX6_step_94 : decode cX6_step 94 = .ok (.istore 7, 2) := by decide +kernel
theorem dX6_step_96 : decode cX6_step 96 = .ok (.iload 7, 2) := by decide +kernel
theorem dX6_step_98 : decode cX6_step 98 = .ok (.iload 5, 2) := by decide +kernel
theorem dX6_step_100 : decode cX6_step 100 = .ok (.if_icmp .ge 100, 3) := by decide +kernel
theorem dX6_step_103 : decode cX6_step 103 = .ok (.iload 7, 2) := by decide +kernel
theorem dX6_step_105 : decode cX6_step 105 = .ok (.iload_n 2, 1) := by decide +kernel
theorem dX6_step_106 : decode cX6_step 106 = .ok (.if_icmp .ne 7, 3) := by decide +kernel
theorem dX6_step_109 : decode cX6_step 109 = .ok (.iconst 0, 1) := by decide +kernel
theorem dX6_step_110 : decode cX6_step 110 = .ok (.goto 15, 3) := by decide +kernel
theorem dX6_step_113 : decode cX6_step 113 = .ok (.aload_n 0, 1) := by decide +kernel
theorem dX6_step_114 : decode cX6_step 114 = .ok (.getfield 49, 3) := by decide +kernel
theorem dX6_step_117 : decode cX6_step 117 = .ok (.bipush 25, 2) := by decide +kernel
theorem dX6_step_119 : decode cX6_step 119 = .ok (.iload 7, 2) := by decide +kernel
theorem dX6_step_121 : decode cX6_step 121 = .ok (.imul, 1) := by decide +kernel
theorem dX6_step_122 : decode cX6_step 122 = .ok (.iload_n 3, 1) := by decide +kernel
theorem dX6_step_123 : decode cX6_step 123 = .ok (.iadd, 1) := by decide +kernel
theorem dX6_step_124 : decode cX6_step 124 = .ok (.iaload, 1) := by decide +kernel
theorem dX6_step_125 : decode cX6_step 125 = .ok (.istore 8, 2) := by decide +kernel
theorem dX6_step_127 : decode cX6_step 127 = .ok (.iconst 0, 1) := by decide +kernel
theorem dX6_step_128 : decode cX6_step 128 = .ok (.istore 9, 2) := by decide +kernel
theorem dX6_step_130 : decode cX6_step 130 = .ok (.iload 9, 2) := by decide +kernel
theorem dX6_step_132 : decode cX6_step 132 = .ok (.iload 4, 2) := by decide +kernel
theorem dX6_step_134 : decode cX6_step 134 = .ok (.if_icmp .ge 60, 3) := by decide +kernel
theorem dX6_step_137 : decode cX6_step 137 = .ok (.iload 8, 2) := by decide +kernel
theorem dX6_step_139 : decode cX6_step 139 = .ok (.ifCond .le 55, 3) := by decide +kernel
theorem dX6_step_142 : decode cX6_step 142 = .ok (.aload_n 0, 1) := by decide +kernel
theorem dX6_step_143 : decode cX6_step 143 = .ok (.getfield 49, 3) := by decide +kernel
theorem dX6_step_146 : decode cX6_step 146 = .ok (.bipush 25, 2) := by decide +kernel
theorem dX6_step_148 : decode cX6_step 148 = .ok (.iload 7, 2) := by decide +kernel
theorem dX6_step_150 : decode cX6_step 150 = .ok (.imul, 1) := by decide +kernel
theorem dX6_step_151 : decode cX6_step 151 = .ok (.iload 9, 2) := by decide +kernel
theorem dX6_step_153 : decode cX6_step 153 = .ok (.iadd, 1) := by decide +kernel
theorem dX6_step_154 : decode cX6_step 154 = .ok (.aload_n 0, 1) := by decide +kernel
theorem dX6_step_155 : decode cX6_step 155 = .ok (.aload_n 0, 1) := by decide +kernel
theorem dX6_step_156 : decode cX6_step 156 = .ok (.getfield 49, 3) := by decide +kernel
theorem dX6_step_159 : decode cX6_step 159 = .ok (.bipush 25, 2) := by decide +kernel
theorem dX6_step_161 : decode cX6_step 161 = .ok (.iload 7, 2) := by decide +kernel
theorem dX6_step_163 : decode cX6_step 163 = .ok (.imul, 1) := by decide +kernel
theorem dX6_step_164 : decode cX6_step 164 = .ok (.iload 9, 2) := by decide +kernel
theorem dX6_step_166 : decode cX6_step 166 = .ok (.iadd, 1) := by decide +kernel
theorem dX6_step_167 : decode cX6_step 167 = .ok (.iaload, 1) := by decide +kernel
theorem dX6_step_168 : decode cX6_step 168 = .ok (.iload 8, 2) := by decide +kernel
theorem dX6_step_170 : decode cX6_step 170 = .ok (.aload_n 0, 1) := by decide +kernel
theorem dX6_step_171 : decode cX6_step 171 = .ok (.getfield 49, 3) := by decide +kernel
theorem dX6_step_174 : decode cX6_step 174 = .ok (.bipush 25, 2) := by decide +kernel
theorem dX6_step_176 : decode cX6_step 176 = .ok (.iload_n 2, 1) := by decide +kernel
theorem dX6_step_177 : decode cX6_step 177 = .ok (.imul, 1) := by decide +kernel
theorem dX6_step_178 : decode cX6_step 178 = .ok (.iload 9, 2) := by decide +kernel
theorem dX6_step_180 : decode cX6_step 180 = .ok (.iadd, 1) := by decide +kernel
theorem dX6_step_181 : decode cX6_step 181 = .ok (.iaload, 1) := by decide +kernel
theorem dX6_step_182 : decode cX6_step 182 = .ok (.imul, 1) := by decide +kernel
theorem dX6_step_183 : decode cX6_step 183 = .ok (.isub, 1) := by decide +kernel
theorem dX6_step_184 : decode cX6_step 184 = .ok (.invokevirtual 119, 3) := by decide +kernel
theorem dX6_step_187 : decode cX6_step 187 = .ok (.iastore, 1) := by decide +kernel
theorem dX6_step_188 : decode cX6_step 188 = .ok (.iinc 9 1, 3) := by decide +kernel
theorem dX6_step_191 : decode cX6_step 191 = .ok (.goto (-61), 3) := by decide +kernel
theorem dX6_step_194 : decode cX6_step 194 = .ok (.iinc 7 1, 3) := by decide +kernel
theorem dX6_step_197 : decode cX6_step 197 = .ok (.goto (-101), 3) := by decide +kernel
theorem dX6_step_200 : decode cX6_step 200 = .ok (.return_, 1) := by decide +kernel
theorem dX6_findLaw_0 : decode cX6_findLaw 0 = .ok (.aload_n 0, 1) := by decide +kernel
theorem dX6_findLaw_1 : decode cX6_findLaw 1 = .ok (.iconst 0, 1) := by decide +kernel
theorem dX6_findLaw_2 : decode cX6_findLaw 2 = .ok (.putfield 122, 3) := by decide +kernel
theorem dX6_findLaw_5 : decode cX6_findLaw 5 = .ok (.aload_n 0, 1) := by decide +kernel
theorem dX6_findLaw_6 : decode cX6_findLaw 6 = .ok (.aload_n 0, 1) := by decide +kernel
theorem dX6_findLaw_7 : decode cX6_findLaw 7 = .ok (.getfield 122, 3) := by decide +kernel
theorem dX6_findLaw_10 : decode cX6_findLaw 10 = .ok (.invokevirtual 125, 3) := by decide +kernel
theorem dX6_findLaw_13 : decode cX6_findLaw 13 = .ok (.ifCond .ne 16, 3) := by decide +kernel
theorem dX6_findLaw_16 : decode cX6_findLaw 16 = .ok (.aload_n 0, 1) := by decide +kernel
theorem dX6_findLaw_17 : decode cX6_findLaw 17 = .ok (.dup, 1) := by decide +kernel
theorem dX6_findLaw_18 : decode cX6_findLaw 18 = .ok (.getfield 122, 3) := by decide +kernel
theorem dX6_findLaw_21 : decode cX6_findLaw 21 = .ok (.iconst 1, 1) := by decide +kernel
theorem dX6_findLaw_22 : decode cX6_findLaw 22 = .ok (.iadd, 1) := by decide +kernel
theorem dX6_findLaw_23 : decode cX6_findLaw 23 = .ok (.putfield 122, 3) := by decide +kernel
theorem dX6_findLaw_26 : decode cX6_findLaw 26 = .ok (.goto (-21), 3) := by decide +kernel
theorem dX6_findLaw_29 : decode cX6_findLaw 29 = .ok (.return_, 1) := by decide +kernel
theorem dX6_isOne_0 : decode cX6_isOne 0 = .ok (.aload_n 0, 1) := by decide +kernel
theorem dX6_isOne_1 : decode cX6_isOne 1 = .ok (.getfield 109, 3) := by decide +kernel
theorem dX6_isOne_4 : decode cX6_isOne 4 = .ok (.iconst 2, 1) := by decide +kernel
theorem dX6_isOne_5 : decode cX6_isOne 5 = .ok (.aload_n 0, 1) := by decide +kernel
theorem dX6_isOne_6 : decode cX6_isOne 6 = .ok (.getfield 122, 3) := by decide +kernel
theorem dX6_isOne_9 : decode cX6_isOne 9 = .ok (.imul, 1) := by decide +kernel
theorem dX6_isOne_10 : decode cX6_isOne 10 = .ok (.if_icmp .lt 7, 3) := by decide +kernel
theorem dX6_isOne_13 : decode cX6_isOne 13 = .ok (.iconst 1, 1) := by decide +kernel
theorem dX6_isOne_14 : decode cX6_isOne 14 = .ok (.goto 4, 3) := by decide +kernel
theorem dX6_isOne_17 : decode cX6_isOne 17 = .ok (.iconst 0, 1) := by decide +kernel
theorem dX6_isOne_18 : decode cX6_isOne 18 = .ok (.ireturn, 1) := by decide +kernel
theorem dX6_order_0 : decode cX6_order 0 = .ok (.iload_n 1, 1) := by decide +kernel
theorem dX6_order_1 : decode cX6_order 1 = .ok (.iload_n 2, 1) := by decide +kernel
theorem dX6_order_2 : decode cX6_order 2 = .ok (.invokestatic 128, 3) := by decide +kernel
theorem dX6_order_5 : decode cX6_order 5 = .ok (.ifCond .ne 7, 3) := by decide +kernel
theorem dX6_order_8 : decode cX6_order 8 = .ok (.sipush (-1002), 3) := by decide +kernel
theorem dX6_order_11 : decode cX6_order 11 = .ok (.ireturn, 1) := by decide +kernel
theorem dX6_order_12 : decode cX6_order 12 = .ok (.aload_n 0, 1) := by decide +kernel
theorem dX6_order_13 : decode cX6_order 13 = .ok (.iload_n 1, 1) := by decide +kernel
theorem dX6_order_14 : decode cX6_order 14 = .ok (.iload_n 2, 1) := by decide +kernel
theorem dX6_order_15 : decode cX6_order 15 = .ok (.invokevirtual 132, 3) := by decide +kernel
theorem dX6_order_18 : decode cX6_order 18 = .ok (.ifCond .ne 7, 3) := by decide +kernel
theorem dX6_order_21 : decode cX6_order 21 = .ok (.sipush (-1003), 3) := by decide +kernel
theorem dX6_order_24 : decode cX6_order 24 = .ok (.ireturn, 1) := by decide +kernel
theorem dX6_order_25 : decode cX6_order 25 = .ok (.aload_n 0, 1) := by decide +kernel
theorem dX6_order_26 : decode cX6_order 26 = .ok (.iload_n 1, 1) := by decide +kernel
theorem dX6_order_27 : decode cX6_order 27 = .ok (.iload_n 2, 1) := by decide +kernel
theorem dX6_order_28 : decode cX6_order 28 = .ok (.invokevirtual 135, 3) := by decide +kernel
theorem dX6_order_31 : decode cX6_order 31 = .ok (.aload_n 0, 1) := by decide +kernel
theorem dX6_order_32 : decode cX6_order 32 = .ok (.invokevirtual 139, 3) := by decide +kernel
theorem dX6_order_35 : decode cX6_order 35 = .ok (.aload_n 0, 1) := by decide +kernel
theorem dX6_order_36 : decode cX6_order 36 = .ok (.getfield 122, 3) := by decide +kernel
theorem dX6_order_39 : decode cX6_order 39 = .ok (.ireturn, 1) := by decide +kernel
theorem dX6_law_0 : decode cX6_law 0 = .ok (.iload_n 1, 1) := by decide +kernel
theorem dX6_law_1 : decode cX6_law 1 = .ok (.iload_n 2, 1) := by decide +kernel
theorem dX6_law_2 : decode cX6_law 2 = .ok (.invokestatic 128, 3) := by decide +kernel
theorem dX6_law_5 : decode cX6_law 5 = .ok (.ifCond .eq 7, 3) := by decide +kernel
theorem dX6_law_8 : decode cX6_law 8 = .ok (.iload_n 3, 1) := by decide +kernel
theorem dX6_law_9 : decode cX6_law 9 = .ok (.ifCond .ge 7, 3) := by decide +kernel
theorem dX6_law_12 : decode cX6_law 12 = .ok (.sipush (-1002), 3) := by decide +kernel
theorem dX6_law_15 : decode cX6_law 15 = .ok (.ireturn, 1) := by decide +kernel
theorem dX6_law_16 : decode cX6_law 16 = .ok (.aload_n 0, 1) := by decide +kernel
theorem dX6_law_17 : decode cX6_law 17 = .ok (.iload_n 1, 1) := by decide +kernel
theorem dX6_law_18 : decode cX6_law 18 = .ok (.iload_n 2, 1) := by decide +kernel
theorem dX6_law_19 : decode cX6_law 19 = .ok (.invokevirtual 132, 3) := by decide +kernel
theorem dX6_law_22 : decode cX6_law 22 = .ok (.ifCond .ne 7, 3) := by decide +kernel
theorem dX6_law_25 : decode cX6_law 25 = .ok (.sipush (-1003), 3) := by decide +kernel
theorem dX6_law_28 : decode cX6_law 28 = .ok (.ireturn, 1) := by decide +kernel
theorem dX6_law_29 : decode cX6_law 29 = .ok (.aload_n 0, 1) := by decide +kernel
theorem dX6_law_30 : decode cX6_law 30 = .ok (.iload_n 1, 1) := by decide +kernel
theorem dX6_law_31 : decode cX6_law 31 = .ok (.iload_n 2, 1) := by decide +kernel
theorem dX6_law_32 : decode cX6_law 32 = .ok (.invokevirtual 135, 3) := by decide +kernel
theorem dX6_law_35 : decode cX6_law 35 = .ok (.aload_n 0, 1) := by decide +kernel
theorem dX6_law_36 : decode cX6_law 36 = .ok (.invokevirtual 139, 3) := by decide +kernel
theorem dX6_law_39 : decode cX6_law 39 = .ok (.iload_n 3, 1) := by decide +kernel
theorem dX6_law_40 : decode cX6_law 40 = .ok (.aload_n 0, 1) := by decide +kernel
theorem dX6_law_41 : decode cX6_law 41 = .ok (.getfield 122, 3) := by decide +kernel
theorem dX6_law_44 : decode cX6_law 44 = .ok (.if_icmp .le 7, 3) := by decide +kernel
theorem dX6_law_47 : decode cX6_law 47 = .ok (.sipush (-1002), 3) := by decide +kernel
theorem dX6_law_50 : decode cX6_law 50 = .ok (.ireturn, 1) := by decide +kernel
theorem dX6_law_51 : decode cX6_law 51 = .ok (.iload_n 3, 1) := by decide +kernel
theorem dX6_law_52 : decode cX6_law 52 = .ok (.ifCond .ne 18, 3) := by decide +kernel
theorem dX6_law_55 : decode cX6_law 55 = .ok (.aload_n 0, 1) := by decide +kernel
theorem dX6_law_56 : decode cX6_law 56 = .ok (.invokevirtual 142, 3) := by decide +kernel
theorem dX6_law_59 : decode cX6_law 59 = .ok (.ifCond .eq 7, 3) := by decide +kernel
theorem dX6_law_62 : decode cX6_law 62 = .ok (.iconst 1, 1) := by decide +kernel
theorem dX6_law_63 : decode cX6_law 63 = .ok (.goto 26, 3) := by decide +kernel
theorem dX6_law_66 : decode cX6_law 66 = .ok (.iconst 0, 1) := by decide +kernel
theorem dX6_law_67 : decode cX6_law 67 = .ok (.goto 22, 3) := by decide +kernel
theorem dX6_law_70 : decode cX6_law 70 = .ok (.aload_n 0, 1) := by decide +kernel
theorem dX6_law_71 : decode cX6_law 71 = .ok (.invokevirtual 142, 3) := by decide +kernel
theorem dX6_law_74 : decode cX6_law 74 = .ok (.ifCond .eq 12, 3) := by decide +kernel
theorem dX6_law_77 : decode cX6_law 77 = .ok (.aload_n 0, 1) := by decide +kernel
theorem dX6_law_78 : decode cX6_law 78 = .ok (.getfield 46, 3) := by decide +kernel
theorem dX6_law_81 : decode cX6_law 81 = .ok (.iload_n 3, 1) := by decide +kernel
theorem dX6_law_82 : decode cX6_law 82 = .ok (.iaload, 1) := by decide +kernel
theorem dX6_law_83 : decode cX6_law 83 = .ok (.goto 6, 3) := by decide +kernel
theorem dX6_law_86 : decode cX6_law 86 = .ok (.sipush (-1003), 3) := by decide +kernel
theorem dX6_law_89 : decode cX6_law 89 = .ok (.ireturn, 1) := by decide +kernel
theorem dX6_findSlants_0 : decode cX6_findSlants 0 = .ok (.aload_n 0, 1) := by decide +kernel
theorem dX6_findSlants_1 : decode cX6_findSlants 1 = .ok (.iconst 0, 1) := by decide +kernel
theorem dX6_findSlants_2 : decode cX6_findSlants 2 = .ok (.putfield 146, 3) := by decide +kernel
theorem dX6_findSlants_5 : decode cX6_findSlants 5 = .ok (.iconst 1, 1) := by decide +kernel
theorem dX6_findSlants_6 : decode cX6_findSlants 6 = .ok (.istore_n 1, 1) := by decide +kernel
theorem dX6_findSlants_7 : decode cX6_findSlants 7 = .ok (.iload_n 1, 1) := by decide +kernel
theorem dX6_findSlants_8 : decode cX6_findSlants 8 = .ok (.aload_n 0, 1) := by decide +kernel
theorem dX6_findSlants_9 : decode cX6_findSlants 9 = .ok (.getfield 7, 3) := by decide +kernel
theorem dX6_findSlants_12 : decode cX6_findSlants 12 = .ok (.if_icmp .ge 93, 3) := by decide +kernel
theorem dX6_findSlants_15 : decode cX6_findSlants 15 = .ok (.iconst 0, 1) := by decide +kernel
theorem dX6_findSlants_16 : decode cX6_findSlants 16 = .ok (.istore_n 2, 1) := by decide +kernel
theorem dX6_findSlants_17 : decode cX6_findSlants 17 = .ok (.iconst 1, 1) := by decide +kernel
theorem dX6_findSlants_18 : decode cX6_findSlants 18 = .ok (.istore_n 3, 1) := by decide +kernel
theorem dX6_findSlants_19 : decode cX6_findSlants 19 = .ok (.iload_n 3, 1) := by decide +kernel
theorem dX6_findSlants_20 : decode cX6_findSlants 20 = .ok (.aload_n 0, 1) := by decide +kernel
theorem dX6_findSlants_21 : decode cX6_findSlants 21 = .ok (.getfield 122, 3) := by decide +kernel
theorem dX6_findSlants_24 : decode cX6_findSlants 24 = .ok (.if_icmp .gt 30, 3) := by decide +kernel
theorem dX6_findSlants_27 : decode cX6_findSlants 27 = .ok (.iload_n 2, 1) := by decide +kernel
theorem dX6_findSlants_28 : decode cX6_findSlants 28 = .ok (.aload_n 0, 1) := by decide +kernel
theorem dX6_findSlants_29 : decode cX6_findSlants 29 = .ok (.getfield 46, 3) := by decide +kernel
theorem dX6_findSlants_32 : decode cX6_findSlants 32 = .ok (.iload_n 3, 1) := by decide +kernel
theorem dX6_findSlants_33 : decode cX6_findSlants 33 = .ok (.iaload, 1) := by decide +kernel
theorem dX6_findSlants_34 : decode cX6_findSlants 34 = .ok (.aload_n 0, 1) := by decide +kernel
theorem dX6_findSlants_35 : decode cX6_findSlants 35 = .ok (.iload_n 1, 1) := by decide +kernel
theorem dX6_findSlants_36 : decode cX6_findSlants 36 = .ok (.aload_n 0, 1) := by decide +kernel
theorem dX6_findSlants_37 : decode cX6_findSlants 37 = .ok (.getfield 122, 3) := by decide +kernel
theorem dX6_findSlants_40 : decode cX6_findSlants 40 = .ok (.iload_n 3, 1) := by decide +kernel
theorem dX6_findSlants_41 : decode cX6_findSlants 41 = .ok (.isub, 1) := by decide +kernel
theorem dX6_findSlants_42 : decode cX6_findSlants 42 = .ok (.invokevirtual 84, 3) := by decide +kernel
theorem dX6_findSlants_45 : decode cX6_findSlants 45 = .ok (.imul, 1) := by decide +kernel
theorem dX6_findSlants_46 : decode cX6_findSlants 46 = .ok (.iadd, 1) := by decide +kernel
theorem dX6_findSlants_47 : decode cX6_findSlants 47 = .ok (.istore_n 2, 1) := by decide +kernel
theorem dX6_findSlants_48 : decode cX6_findSlants 48 = .ok (.iinc 3 1, 3) := by decide +kernel
theorem dX6_findSlants_51 : decode cX6_findSlants 51 = .ok (.goto (-32), 3) := by decide +kernel
theorem dX6_findSlants_54 : decode cX6_findSlants 54 = .ok (.aload_n 0, 1) := by decide +kernel
theorem dX6_findSlants_55 : decode cX6_findSlants 55 = .ok (.getfield 122, 3) := by decide +kernel
theorem dX6_findSlants_58 : decode cX6_findSlants 58 = .ok (.ifCond .le 41, 3) := by decide +kernel
theorem dX6_findSlants_61 : decode cX6_findSlants 61 = .ok (.iload_n 2, 1) := by decide +kernel
theorem dX6_findSlants_62 : decode cX6_findSlants 62 = .ok (.aload_n 0, 1) := by decide +kernel
theorem dX6_findSlants_63 : decode cX6_findSlants 63 = .ok (.getfield 7, 3) := by decide +kernel
theorem dX6_findSlants_66 : decode cX6_findSlants 66 = .ok (.irem, 1) := by decide +kernel
theorem dX6_findSlants_67 : decode cX6_findSlants 67 = .ok (.aload_n 0, 1) := by decide +kernel
theorem dX6_findSlants_68 : decode cX6_findSlants 68 = .ok (.iload_n 1, 1) := by decide +kernel
theorem dX6_findSlants_69 : decode cX6_findSlants 69 = .ok (.aload_n 0, 1) := by decide +kernel
theorem dX6_findSlants_70 : decode cX6_findSlants 70 = .ok (.getfield 122, 3) := by decide +kernel
theorem dX6_findSlants_73 : decode cX6_findSlants 73 = .ok (.invokevirtual 84, 3) := by decide +kernel
theorem dX6_findSlants_76 : decode cX6_findSlants 76 = .ok (.if_icmp .ne 23, 3) := by decide +kernel
theorem dX6_findSlants_79 : decode cX6_findSlants 79 = .ok (.aload_n 0, 1) := by decide +kernel
theorem dX6_findSlants_80 : decode cX6_findSlants 80 = .ok (.getfield 52, 3) := by decide +kernel
theorem dX6_findSlants_83 : decode cX6_findSlants 83 = .ok (.aload_n 0, 1) := by decide +kernel
theorem dX6_findSlants_84 : decode cX6_findSlants 84 = .ok (.getfield 146, 3) := by decide +kernel
theorem dX6_findSlants_87 : decode cX6_findSlants 87 = .ok (.iload_n 1, 1) := by decide +kernel
theorem dX6_findSlants_88 : decode cX6_findSlants 88 = .ok (.iastore, 1) := by decide +kernel
theorem dX6_findSlants_89 : decode cX6_findSlants 89 = .ok (.aload_n 0, 1) := by decide +kernel
theorem dX6_findSlants_90 : decode cX6_findSlants 90 = .ok (.dup, 1) := by decide +kernel
theorem dX6_findSlants_91 : decode cX6_findSlants 91 = .ok (.getfield 146, 3) := by decide +kernel
theorem dX6_findSlants_94 : decode cX6_findSlants 94 = .ok (.iconst 1, 1) := by decide +kernel
theorem dX6_findSlants_95 : decode cX6_findSlants 95 = .ok (.iadd, 1) := by decide +kernel
theorem dX6_findSlants_96 : decode cX6_findSlants 96 = .ok (.putfield 146, 3) := by decide +kernel
theorem dX6_findSlants_99 : decode cX6_findSlants 99 = .ok (.iinc 1 1, 3) := by decide +kernel
theorem dX6_findSlants_102 : decode cX6_findSlants 102 = .ok (.goto (-95), 3) := by decide +kernel
theorem dX6_findSlants_105 : decode cX6_findSlants 105 = .ok (.return_, 1) := by decide +kernel
theorem dX6_findAll_0 : decode cX6_findAll 0 = .ok (.iload_n 1, 1) := by decide +kernel
theorem dX6_findAll_1 : decode cX6_findAll 1 = .ok (.iload_n 2, 1) := by decide +kernel
theorem dX6_findAll_2 : decode cX6_findAll 2 = .ok (.invokestatic 128, 3) := by decide +kernel
theorem dX6_findAll_5 : decode cX6_findAll 5 = .ok (.ifCond .ne 7, 3) := by decide +kernel
theorem dX6_findAll_8 : decode cX6_findAll 8 = .ok (.sipush (-1002), 3) := by decide +kernel
theorem dX6_findAll_11 : decode cX6_findAll 11 = .ok (.ireturn, 1) := by decide +kernel
theorem dX6_findAll_12 : decode cX6_findAll 12 = .ok (.aload_n 0, 1) := by decide +kernel
theorem dX6_findAll_13 : decode cX6_findAll 13 = .ok (.iload_n 1, 1) := by decide +kernel
theorem dX6_findAll_14 : decode cX6_findAll 14 = .ok (.iload_n 2, 1) := by decide +kernel
theorem dX6_findAll_15 : decode cX6_findAll 15 = .ok (.invokevirtual 132, 3) := by decide +kernel
theorem dX6_findAll_18 : decode cX6_findAll 18 = .ok (.ifCond .ne 7, 3) := by decide +kernel
theorem dX6_findAll_21 : decode cX6_findAll 21 = .ok (.sipush (-1003), 3) := by decide +kernel
theorem dX6_findAll_24 : decode cX6_findAll 24 = .ok (.ireturn, 1) := by decide +kernel
theorem dX6_findAll_25 : decode cX6_findAll 25 = .ok (.aload_n 0, 1) := by decide +kernel
theorem dX6_findAll_26 : decode cX6_findAll 26 = .ok (.iload_n 1, 1) := by decide +kernel
theorem dX6_findAll_27 : decode cX6_findAll 27 = .ok (.iload_n 2, 1) := by decide +kernel
theorem dX6_findAll_28 : decode cX6_findAll 28 = .ok (.invokevirtual 135, 3) := by decide +kernel
theorem dX6_findAll_31 : decode cX6_findAll 31 = .ok (.aload_n 0, 1) := by decide +kernel
theorem dX6_findAll_32 : decode cX6_findAll 32 = .ok (.invokevirtual 139, 3) := by decide +kernel
theorem dX6_findAll_35 : decode cX6_findAll 35 = .ok (.aload_n 0, 1) := by decide +kernel
theorem dX6_findAll_36 : decode cX6_findAll 36 = .ok (.invokevirtual 142, 3) := by decide +kernel
theorem dX6_findAll_39 : decode cX6_findAll 39 = .ok (.ifCond .ne 7, 3) := by decide +kernel
theorem dX6_findAll_42 : decode cX6_findAll 42 = .ok (.sipush (-1003), 3) := by decide +kernel
theorem dX6_findAll_45 : decode cX6_findAll 45 = .ok (.ireturn, 1) := by decide +kernel
theorem dX6_findAll_46 : decode cX6_findAll 46 = .ok (.aload_n 0, 1) := by decide +kernel
theorem dX6_findAll_47 : decode cX6_findAll 47 = .ok (.invokevirtual 149, 3) := by decide +kernel
theorem dX6_findAll_50 : decode cX6_findAll 50 = .ok (.iconst 0, 1) := by decide +kernel
theorem dX6_findAll_51 : decode cX6_findAll 51 = .ok (.ireturn, 1) := by decide +kernel
theorem dX6_slant_0 : decode cX6_slant 0 = .ok (.aload_n 0, 1) := by decide +kernel
theorem dX6_slant_1 : decode cX6_slant 1 = .ok (.iload_n 1, 1) := by decide +kernel
theorem dX6_slant_2 : decode cX6_slant 2 = .ok (.iload_n 2, 1) := by decide +kernel
theorem dX6_slant_3 : decode cX6_slant 3 = .ok (.invokevirtual 152, 3) := by decide +kernel
theorem dX6_slant_6 : decode cX6_slant 6 = .ok (.istore 4, 2) := by decide +kernel
theorem dX6_slant_8 : decode cX6_slant 8 = .ok (.iload 4, 2) := by decide +kernel
theorem dX6_slant_10 : decode cX6_slant 10 = .ok (.ifCond .ge 6, 3) := by decide +kernel
theorem dX6_slant_13 : decode cX6_slant 13 = .ok (.iload 4, 2) := by decide +kernel
theorem dX6_slant_15 : decode cX6_slant 15 = .ok (.ireturn, 1) := by decide +kernel
theorem dX6_slant_16 : decode cX6_slant 16 = .ok (.iload_n 3, 1) := by decide +kernel
theorem dX6_slant_17 : decode cX6_slant 17 = .ok (.iconst (-1), 1) := by decide +kernel
theorem dX6_slant_18 : decode cX6_slant 18 = .ok (.if_icmp .ne 10, 3) := by decide +kernel
theorem dX6_slant_21 : decode cX6_slant 21 = .ok (.aload_n 0, 1) := by decide +kernel
theorem dX6_slant_22 : decode cX6_slant 22 = .ok (.getfield 146, 3) := by decide +kernel
theorem dX6_slant_25 : decode cX6_slant 25 = .ok (.goto 29, 3) := by decide +kernel
theorem dX6_slant_28 : decode cX6_slant 28 = .ok (.iload_n 3, 1) := by decide +kernel
theorem dX6_slant_29 : decode cX6_slant 29 = .ok (.i2l, 1) := by decide +kernel
theorem dX6_slant_30 : decode cX6_slant 30 = .ok (.lconst 0, 1) := by decide +kernel
theorem dX6_slant_31 : decode cX6_slant 31 = .ok (.aload_n 0, 1) := by decide +kernel
theorem dX6_slant_32 : decode cX6_slant 32 = .ok (.getfield 146, 3) := by decide +kernel
theorem dX6_slant_35 : decode cX6_slant 35 = .ok (.iconst 1, 1) := by decide +kernel
theorem dX6_slant_36 : decode cX6_slant 36 = .ok (.isub, 1) := by decide +kernel
theorem dX6_slant_37 : decode cX6_slant 37 = .ok (.i2l, 1) := by decide +kernel
theorem dX6_slant_38 : decode cX6_slant 38 = .ok (.invokestatic 65, 3) := by decide +kernel
theorem dX6_slant_41 : decode cX6_slant 41 = .ok (.ifCond .eq 12, 3) := by decide +kernel
theorem dX6_slant_44 : decode cX6_slant 44 = .ok (.aload_n 0, 1) := by decide +kernel
theorem dX6_slant_45 : decode cX6_slant 45 = .ok (.getfield 52, 3) := by decide +kernel
theorem dX6_slant_48 : decode cX6_slant 48 = .ok (.iload_n 3, 1) := by decide +kernel
theorem dX6_slant_49 : decode cX6_slant 49 = .ok (.iaload, 1) := by decide +kernel
theorem dX6_slant_50 : decode cX6_slant 50 = .ok (.goto 4, 3) := by decide +kernel
theorem dX6_slant_53 : decode cX6_slant 53 = .ok (.iconst (-1), 1) := by decide +kernel
theorem dX6_slant_54 : decode cX6_slant 54 = .ok (.ireturn, 1) := by decide +kernel
theorem dX6_strength_0 : decode cX6_strength 0 = .ok (.aload_n 0, 1) := by decide +kernel
theorem dX6_strength_1 : decode cX6_strength 1 = .ok (.iload_n 1, 1) := by decide +kernel
theorem dX6_strength_2 : decode cX6_strength 2 = .ok (.iload_n 2, 1) := by decide +kernel
theorem dX6_strength_3 : decode cX6_strength 3 = .ok (.invokevirtual 152, 3) := by decide +kernel
theorem dX6_strength_6 : decode cX6_strength 6 = .ok (.istore 4, 2) := by decide +kernel
theorem dX6_strength_8 : decode cX6_strength 8 = .ok (.iload 4, 2) := by decide +kernel
theorem dX6_strength_10 : decode cX6_strength 10 = .ok (.ifCond .ge 6, 3) := by decide +kernel
theorem dX6_strength_13 : decode cX6_strength 13 = .ok (.iload 4, 2) := by decide +kernel
theorem dX6_strength_15 : decode cX6_strength 15 = .ok (.ireturn, 1) := by decide +kernel
theorem dX6_strength_16 : decode cX6_strength 16 = .ok (.aload_n 0, 1) := by decide +kernel
theorem dX6_strength_17 : decode cX6_strength 17 = .ok (.getfield 146, 3) := by decide +kernel
theorem dX6_strength_20 : decode cX6_strength 20 = .ok (.aload_n 0, 1) := by decide +kernel
theorem dX6_strength_21 : decode cX6_strength 21 = .ok (.getfield 122, 3) := by decide +kernel
theorem dX6_strength_24 : decode cX6_strength 24 = .ok (.if_icmp .lt 19, 3) := by decide +kernel
theorem dX6_strength_27 : decode cX6_strength 27 = .ok (.iload_n 3, 1) := by decide +kernel
theorem dX6_strength_28 : decode cX6_strength 28 = .ok (.i2l, 1) := by decide +kernel
theorem dX6_strength_29 : decode cX6_strength 29 = .ok (.lconst 0, 1) := by decide +kernel
theorem dX6_strength_30 : decode cX6_strength 30 = .ok (.aload_n 0, 1) := by decide +kernel
theorem dX6_strength_31 : decode cX6_strength 31 = .ok (.getfield 146, 3) := by decide +kernel
theorem dX6_strength_34 : decode cX6_strength 34 = .ok (.iconst 1, 1) := by decide +kernel
theorem dX6_strength_35 : decode cX6_strength 35 = .ok (.isub, 1) := by decide +kernel
theorem dX6_strength_36 : decode cX6_strength 36 = .ok (.i2l, 1) := by decide +kernel
theorem dX6_strength_37 : decode cX6_strength 37 = .ok (.invokestatic 65, 3) := by decide +kernel
theorem dX6_strength_40 : decode cX6_strength 40 = .ok (.ifCond .ne 5, 3) := by decide +kernel
theorem dX6_strength_43 : decode cX6_strength 43 = .ok (.iconst (-1), 1) := by decide +kernel
theorem dX6_strength_44 : decode cX6_strength 44 = .ok (.ireturn, 1) := by decide +kernel
theorem dX6_strength_45 : decode cX6_strength 45 = .ok (.iconst 0, 1) := by decide +kernel
theorem dX6_strength_46 : decode cX6_strength 46 = .ok (.istore 5, 2) := by decide +kernel
theorem dX6_strength_48 : decode cX6_strength 48 = .ok (.iload 5, 2) := by decide +kernel
theorem dX6_strength_50 : decode cX6_strength 50 = .ok (.aload_n 0, 1) := by decide +kernel
theorem dX6_strength_51 : decode cX6_strength 51 = .ok (.getfield 122, 3) := by decide +kernel
theorem dX6_strength_54 : decode cX6_strength 54 = .ok (.if_icmp .ge 77, 3) := by decide +kernel
theorem dX6_strength_57 : decode cX6_strength 57 = .ok (.iconst 0, 1) := by decide +kernel
theorem dX6_strength_58 : decode cX6_strength 58 = .ok (.istore 6, 2) := by decide +kernel
theorem dX6_strength_60 : decode cX6_strength 60 = .ok (.iload 6, 2) := by decide +kernel
theorem dX6_strength_62 : decode cX6_strength 62 = .ok (.aload_n 0, 1) := by decide +kernel
theorem dX6_strength_63 : decode cX6_strength 63 = .ok (.getfield 122, 3) := by decide +kernel
theorem dX6_strength_66 : decode cX6_strength 66 = .ok (.if_icmp .ge 37, 3) := by decide +kernel
theorem dX6_strength_69 : decode cX6_strength 69 = .ok (.aload_n 0, 1) := by decide +kernel
theorem dX6_strength_70 : decode cX6_strength 70 = .ok (.getfield 49, 3) := by decide +kernel
theorem dX6_strength_73 : decode cX6_strength 73 = .ok (.bipush 25, 2) := by decide +kernel
theorem dX6_strength_75 : decode cX6_strength 75 = .ok (.iload 5, 2) := by decide +kernel
theorem dX6_strength_77 : decode cX6_strength 77 = .ok (.imul, 1) := by decide +kernel
theorem dX6_strength_78 : decode cX6_strength 78 = .ok (.iload 6, 2) := by decide +kernel
theorem dX6_strength_80 : decode cX6_strength 80 = .ok (.iadd, 1) := by decide +kernel
theorem dX6_strength_81 : decode cX6_strength 81 = .ok (.aload_n 0, 1) := by decide +kernel
theorem dX6_strength_82 : decode cX6_strength 82 = .ok (.aload_n 0, 1) := by decide +kernel
theorem dX6_strength_83 : decode cX6_strength 83 = .ok (.getfield 52, 3) := by decide +kernel
theorem dX6_strength_86 : decode cX6_strength 86 = .ok (.iload 6, 2) := by decide +kernel
theorem dX6_strength_88 : decode cX6_strength 88 = .ok (.iaload, 1) := by decide +kernel
theorem dX6_strength_89 : decode cX6_strength 89 = .ok (.iload_n 1, 1) := by decide +kernel
theorem dX6_strength_90 : decode cX6_strength 90 = .ok (.iload 5, 2) := by decide +kernel
theorem dX6_strength_92 : decode cX6_strength 92 = .ok (.iadd, 1) := by decide +kernel
theorem dX6_strength_93 : decode cX6_strength 93 = .ok (.invokevirtual 84, 3) := by decide +kernel
theorem dX6_strength_96 : decode cX6_strength 96 = .ok (.iastore, 1) := by decide +kernel
theorem dX6_strength_97 : decode cX6_strength 97 = .ok (.iinc 6 1, 3) := by decide +kernel
theorem dX6_strength_100 : decode cX6_strength 100 = .ok (.goto (-40), 3) := by decide +kernel
theorem dX6_strength_103 : decode cX6_strength 103 = .ok (.aload_n 0, 1) := by decide +kernel
theorem dX6_strength_104 : decode cX6_strength 104 = .ok (.getfield 49, 3) := by decide +kernel
theorem dX6_strength_107 : decode cX6_strength 107 = .ok (.bipush 25, 2) := by decide +kernel
