theorem dX4_init_0 : decode cX4_init 0 = .ok (.aload_n 0, 1) := by decide +kernel
theorem dX4_init_1 : decode cX4_init 1 = .ok (.invokespecial 3, 3) := by decide +kernel
theorem dX4_init_4 : decode cX4_init 4 = .ok (.aload_n 0, 1) := by decide +kernel
theorem dX4_init_5 : decode cX4_init 5 = .ok (.bipush 6, 2) := by decide +kernel
theorem dX4_init_7 : decode cX4_init 7 = .ok (.newarray .int, 2) := by decide +kernel
theorem dX4_init_9 : decode cX4_init 9 = .ok (.putfield 9, 3) := by decide +kernel
theorem dX4_init_12 : decode cX4_init 12 = .ok (.aload_n 0, 1) := by decide +kernel
theorem dX4_init_13 : decode cX4_init 13 = .ok (.bipush 6, 2) := by decide +kernel
theorem dX4_init_15 : decode cX4_init 15 = .ok (.newarray .int, 2) := by decide +kernel
theorem dX4_init_17 : decode cX4_init 17 = .ok (.putfield 15, 3) := by decide +kernel
theorem dX4_init_20 : decode cX4_init 20 = .ok (.aload_n 0, 1) := by decide +kernel
theorem dX4_init_21 : decode cX4_init 21 = .ok (.bipush 6, 2) := by decide +kernel
theorem dX4_init_23 : decode cX4_init 23 = .ok (.newarray .int, 2) := by decide +kernel
theorem dX4_init_25 : decode cX4_init 25 = .ok (.putfield 18, 3) := by decide +kernel
theorem dX4_init_28 : decode cX4_init 28 = .ok (.aload_n 0, 1) := by decide +kernel
theorem dX4_init_29 : decode cX4_init 29 = .ok (.bipush 6, 2) := by decide +kernel
theorem dX4_init_31 : decode cX4_init 31 = .ok (.newarray .int, 2) := by decide +kernel
theorem dX4_init_33 : decode cX4_init 33 = .ok (.putfield 21, 3) := by decide +kernel
theorem dX4_init_36 : decode cX4_init 36 = .ok (.aload_n 0, 1) := by decide +kernel
theorem dX4_init_37 : decode cX4_init 37 = .ok (.lconst 1, 1) := by decide +kernel
theorem dX4_init_38 : decode cX4_init 38 = .ok (.putfield 24, 3) := by decide +kernel
theorem dX4_init_41 : decode cX4_init 41 = .ok (.return_, 1) := by decide +kernel
theorem dX4_has_0 : decode cX4_has 0 = .ok (.iload_n 1, 1) := by decide +kernel
theorem dX4_has_1 : decode cX4_has 1 = .ok (.ifCond .lt 15, 3) := by decide +kernel
theorem dX4_has_4 : decode cX4_has 4 = .ok (.iload_n 1, 1) := by decide +kernel
theorem dX4_has_5 : decode cX4_has 5 = .ok (.aload_n 0, 1) := by decide +kernel
theorem dX4_has_6 : decode cX4_has 6 = .ok (.getfield 28, 3) := by decide +kernel
theorem dX4_has_9 : decode cX4_has 9 = .ok (.if_icmp .ge 7, 3) := by decide +kernel
theorem dX4_has_12 : decode cX4_has 12 = .ok (.iconst 1, 1) := by decide +kernel
theorem dX4_has_13 : decode cX4_has 13 = .ok (.goto 4, 3) := by decide +kernel
theorem dX4_has_16 : decode cX4_has 16 = .ok (.iconst 0, 1) := by decide +kernel
theorem dX4_has_17 : decode cX4_has 17 = .ok (.ireturn, 1) := by decide +kernel
theorem dX4_add_0 : decode cX4_add 0 = .ok (.aload_n 0, 1) := by decide +kernel
theorem dX4_add_1 : decode cX4_add 1 = .ok (.getfield 28, 3) := by decide +kernel
theorem dX4_add_4 : decode cX4_add 4 = .ok (.istore 5, 2) := by decide +kernel
theorem dX4_add_6 : decode cX4_add 6 = .ok (.aload_n 0, 1) := by decide +kernel
theorem dX4_add_7 : decode cX4_add 7 = .ok (.getfield 9, 3) := by decide +kernel
theorem dX4_add_10 : decode cX4_add 10 = .ok (.iload 5, 2) := by decide +kernel
theorem dX4_add_12 : decode cX4_add 12 = .ok (.iload_n 1, 1) := by decide +kernel
theorem dX4_add_13 : decode cX4_add 13 = .ok (.iastore, 1) := by decide +kernel
theorem dX4_add_14 : decode cX4_add 14 = .ok (.aload_n 0, 1) := by decide +kernel
theorem dX4_add_15 : decode cX4_add 15 = .ok (.getfield 15, 3) := by decide +kernel
theorem dX4_add_18 : decode cX4_add 18 = .ok (.iload 5, 2) := by decide +kernel
theorem dX4_add_20 : decode cX4_add 20 = .ok (.iload_n 2, 1) := by decide +kernel
theorem dX4_add_21 : decode cX4_add 21 = .ok (.iastore, 1) := by decide +kernel
theorem dX4_add_22 : decode cX4_add 22 = .ok (.aload_n 0, 1) := by decide +kernel
theorem dX4_add_23 : decode cX4_add 23 = .ok (.dup, 1) := by decide +kernel
theorem dX4_add_24 : decode cX4_add 24 = .ok (.getfield 28, 3) := by decide +kernel
theorem dX4_add_27 : decode cX4_add 27 = .ok (.iconst 1, 1) := by decide +kernel
theorem dX4_add_28 : decode cX4_add 28 = .ok (.iadd, 1) := by decide +kernel
theorem dX4_add_29 : decode cX4_add 29 = .ok (.putfield 28, 3) := by decide +kernel
theorem dX4_add_32 : decode cX4_add 32 = .ok (.aload_n 0, 1) := by decide +kernel
theorem dX4_add_33 : decode cX4_add 33 = .ok (.iload 5, 2) := by decide +kernel
theorem dX4_add_35 : decode cX4_add 35 = .ok (.iload_n 3, 1) := by decide +kernel
theorem dX4_add_36 : decode cX4_add 36 = .ok (.iload 4, 2) := by decide +kernel
theorem dX4_add_38 : decode cX4_add 38 = .ok (.invokevirtual 32, 3) := by decide +kernel
theorem dX4_add_41 : decode cX4_add 41 = .ok (.iload 5, 2) := by decide +kernel
theorem dX4_add_43 : decode cX4_add 43 = .ok (.ireturn, 1) := by decide +kernel
theorem dX4_turn_0 : decode cX4_turn 0 = .ok (.aload_n 0, 1) := by decide +kernel
theorem dX4_turn_1 : decode cX4_turn 1 = .ok (.getfield 18, 3) := by decide +kernel
theorem dX4_turn_4 : decode cX4_turn 4 = .ok (.iload_n 1, 1) := by decide +kernel
theorem dX4_turn_5 : decode cX4_turn 5 = .ok (.iload_n 2, 1) := by decide +kernel
theorem dX4_turn_6 : decode cX4_turn 6 = .ok (.iastore, 1) := by decide +kernel
theorem dX4_turn_7 : decode cX4_turn 7 = .ok (.aload_n 0, 1) := by decide +kernel
theorem dX4_turn_8 : decode cX4_turn 8 = .ok (.getfield 21, 3) := by decide +kernel
theorem dX4_turn_11 : decode cX4_turn 11 = .ok (.iload_n 1, 1) := by decide +kernel
theorem dX4_turn_12 : decode cX4_turn 12 = .ok (.iload_n 3, 1) := by decide +kernel
theorem dX4_turn_13 : decode cX4_turn 13 = .ok (.iastore, 1) := by decide +kernel
theorem dX4_turn_14 : decode cX4_turn 14 = .ok (.return_, 1) := by decide +kernel
theorem dX4_cross_0 : decode cX4_cross 0 = .ok (.aload_n 0, 1) := by decide +kernel
theorem dX4_cross_1 : decode cX4_cross 1 = .ok (.getfield 18, 3) := by decide +kernel
theorem dX4_cross_4 : decode cX4_cross 4 = .ok (.iload_n 1, 1) := by decide +kernel
theorem dX4_cross_5 : decode cX4_cross 5 = .ok (.iaload, 1) := by decide +kernel
theorem dX4_cross_6 : decode cX4_cross 6 = .ok (.aload_n 0, 1) := by decide +kernel
theorem dX4_cross_7 : decode cX4_cross 7 = .ok (.getfield 21, 3) := by decide +kernel
theorem dX4_cross_10 : decode cX4_cross 10 = .ok (.iload_n 2, 1) := by decide +kernel
theorem dX4_cross_11 : decode cX4_cross 11 = .ok (.iaload, 1) := by decide +kernel
theorem dX4_cross_12 : decode cX4_cross 12 = .ok (.imul, 1) := by decide +kernel
theorem dX4_cross_13 : decode cX4_cross 13 = .ok (.aload_n 0, 1) := by decide +kernel
theorem dX4_cross_14 : decode cX4_cross 14 = .ok (.getfield 18, 3) := by decide +kernel
theorem dX4_cross_17 : decode cX4_cross 17 = .ok (.iload_n 2, 1) := by decide +kernel
theorem dX4_cross_18 : decode cX4_cross 18 = .ok (.iaload, 1) := by decide +kernel
theorem dX4_cross_19 : decode cX4_cross 19 = .ok (.aload_n 0, 1) := by decide +kernel
theorem dX4_cross_20 : decode cX4_cross 20 = .ok (.getfield 21, 3) := by decide +kernel
theorem dX4_cross_23 : decode cX4_cross 23 = .ok (.iload_n 1, 1) := by decide +kernel
theorem dX4_cross_24 : decode cX4_cross 24 = .ok (.iaload, 1) := by decide +kernel
theorem dX4_cross_25 : decode cX4_cross 25 = .ok (.imul, 1) := by decide +kernel
theorem dX4_cross_26 : decode cX4_cross 26 = .ok (.isub, 1) := by decide +kernel
theorem dX4_cross_27 : decode cX4_cross 27 = .ok (.i2l, 1) := by decide +kernel
theorem dX4_cross_28 : decode cX4_cross 28 = .ok (.lstore_n 3, 1) := by decide +kernel
theorem dX4_cross_29 : decode cX4_cross 29 = .ok (.lload_n 3, 1) := by decide +kernel
theorem dX4_cross_30 : decode cX4_cross 30 = .ok (.lconst 0, 1) := by decide +kernel
theorem dX4_cross_31 : decode cX4_cross 31 = .ok (.lcmp, 1) := by decide +kernel
theorem dX4_cross_32 : decode cX4_cross 32 = .ok (.ifCond .ne 5, 3) := by decide +kernel
theorem dX4_cross_35 : decode cX4_cross 35 = .ok (.iconst 0, 1) := by decide +kernel
theorem dX4_cross_36 : decode cX4_cross 36 = .ok (.ireturn, 1) := by decide +kernel
theorem dX4_cross_37 : decode cX4_cross 37 = .ok (.aload_n 0, 1) := by decide +kernel
theorem dX4_cross_38 : decode cX4_cross 38 = .ok (.getfield 9, 3) := by decide +kernel
theorem dX4_cross_41 : decode cX4_cross 41 = .ok (.iload_n 2, 1) := by decide +kernel
theorem dX4_cross_42 : decode cX4_cross 42 = .ok (.iaload, 1) := by decide +kernel
theorem dX4_cross_43 : decode cX4_cross 43 = .ok (.aload_n 0, 1) := by decide +kernel
theorem dX4_cross_44 : decode cX4_cross 44 = .ok (.getfield 9, 3) := by decide +kernel
theorem dX4_cross_47 : decode cX4_cross 47 = .ok (.iload_n 1, 1) := by decide +kernel
theorem dX4_cross_48 : decode cX4_cross 48 = .ok (.iaload, 1) := by decide +kernel
theorem dX4_cross_49 : decode cX4_cross 49 = .ok (.isub, 1) := by decide +kernel
theorem dX4_cross_50 : decode cX4_cross 50 = .ok (.i2l, 1) := by decide +kernel
theorem dX4_cross_51 : decode cX4_cross 51 = .ok (.lstore 5, 2) := by decide +kernel
theorem dX4_cross_53 : decode cX4_cross 53 = .ok (.aload_n 0, 1) := by decide +kernel
theorem dX4_cross_54 : decode cX4_cross 54 = .ok (.getfield 15, 3) := by decide +kernel
theorem dX4_cross_57 : decode cX4_cross 57 = .ok (.iload_n 2, 1) := by decide +kernel
theorem dX4_cross_58 : decode cX4_cross 58 = .ok (.iaload, 1) := by decide +kernel
theorem dX4_cross_59 : decode cX4_cross 59 = .ok (.aload_n 0, 1) := by decide +kernel
theorem dX4_cross_60 : decode cX4_cross 60 = .ok (.getfield 15, 3) := by decide +kernel
theorem dX4_cross_63 : decode cX4_cross 63 = .ok (.iload_n 1, 1) := by decide +kernel
theorem dX4_cross_64 : decode cX4_cross 64 = .ok (.iaload, 1) := by decide +kernel
theorem dX4_cross_65 : decode cX4_cross 65 = .ok (.isub, 1) := by decide +kernel
theorem dX4_cross_66 : decode cX4_cross 66 = .ok (.i2l, 1) := by decide +kernel
theorem dX4_cross_67 : decode cX4_cross 67 = .ok (.lstore 7, 2) := by decide +kernel
theorem dX4_cross_69 : decode cX4_cross 69 = .ok (.lload 5, 2) := by decide +kernel
theorem dX4_cross_71 : decode cX4_cross 71 = .ok (.aload_n 0, 1) := by decide +kernel
theorem dX4_cross_72 : decode cX4_cross 72 = .ok (.getfield 21, 3) := by decide +kernel
theorem dX4_cross_75 : decode cX4_cross 75 = .ok (.iload_n 2, 1) := by decide +kernel
theorem dX4_cross_76 : decode cX4_cross 76 = .ok (.iaload, 1) := by decide +kernel
theorem dX4_cross_77 : decode cX4_cross 77 = .ok (.i2l, 1) := by decide +kernel
theorem dX4_cross_78 : decode cX4_cross 78 = .ok (.lmul, 1) := by decide +kernel
theorem dX4_cross_79 : decode cX4_cross 79 = .ok (.lload 7, 2) := by decide +kernel
theorem dX4_cross_81 : decode cX4_cross 81 = .ok (.aload_n 0, 1) := by decide +kernel
theorem dX4_cross_82 : decode cX4_cross 82 = .ok (.getfield 18, 3) := by decide +kernel
theorem dX4_cross_85 : decode cX4_cross 85 = .ok (.iload_n 2, 1) := by decide +kernel
theorem dX4_cross_86 : decode cX4_cross 86 = .ok (.iaload, 1) := by decide +kernel
theorem dX4_cross_87 : decode cX4_cross 87 = .ok (.i2l, 1) := by decide +kernel
theorem dX4_cross_88 : decode cX4_cross 88 = .ok (.lmul, 1) := by decide +kernel
theorem dX4_cross_89 : decode cX4_cross 89 = .ok (.lsub, 1) := by decide +kernel
theorem dX4_cross_90 : decode cX4_cross 90 = .ok (.lstore 9, 2) := by decide +kernel
theorem dX4_cross_92 : decode cX4_cross 92 = .ok (.lload 5, 2) := by decide +kernel
theorem dX4_cross_94 : decode cX4_cross 94 = .ok (.aload_n 0, 1) := by decide +kernel
theorem dX4_cross_95 : decode cX4_cross 95 = .ok (.getfield 21, 3) := by decide +kernel
theorem dX4_cross_98 : decode cX4_cross 98 = .ok (.iload_n 1, 1) := by decide +kernel
theorem dX4_cross_99 : decode cX4_cross 99 = .ok (.iaload, 1) := by decide +kernel
theorem dX4_cross_100 : decode cX4_cross 100 = .ok (.i2l, 1) := by decide +kernel
theorem dX4_cross_101 : decode cX4_cross 101 = .ok (.lmul, 1) := by decide +kernel
theorem dX4_cross_102 : decode cX4_cross 102 = .ok (.lload 7, 2) := by decide +kernel
theorem dX4_cross_104 : decode cX4_cross 104 = .ok (.aload_n 0, 1) := by decide +kernel
theorem dX4_cross_105 : decode cX4_cross 105 = .ok (.getfield 18, 3) := by decide +kernel
theorem dX4_cross_108 : decode cX4_cross 108 = .ok (.iload_n 1, 1) := by decide +kernel
theorem dX4_cross_109 : decode cX4_cross 109 = .ok (.iaload, 1) := by decide +kernel
theorem dX4_cross_110 : decode cX4_cross 110 = .ok (.i2l, 1) := by decide +kernel
theorem dX4_cross_111 : decode cX4_cross 111 = .ok (.lmul, 1) := by decide +kernel
theorem dX4_cross_112 : decode cX4_cross 112 = .ok (.lsub, 1) := by decide +kernel
theorem dX4_cross_113 : decode cX4_cross 113 = .ok (.lstore 11, 2) := by decide +kernel
theorem dX4_cross_115 : decode cX4_cross 115 = .ok (.lload_n 3, 1) := by decide +kernel
theorem dX4_cross_116 : decode cX4_cross 116 = .ok (.lconst 0, 1) := by decide +kernel
theorem dX4_cross_117 : decode cX4_cross 117 = .ok (.lcmp, 1) := by decide +kernel
theorem dX4_cross_118 : decode cX4_cross 118 = .ok (.ifCond .ge 16, 3) := by decide +kernel
theorem dX4_cross_121 : decode cX4_cross 121 = .ok (.lload_n 3, 1) := by decide +kernel
theorem dX4_cross_122 : decode cX4_cross 122 = .ok (.lneg, 1) := by decide +kernel
theorem dX4_cross_123 : decode cX4_cross 123 = .ok (.lstore_n 3, 1) := by decide +kernel
theorem dX4_cross_124 : decode cX4_cross 124 = .ok (.lload 9, 2) := by decide +kernel
theorem dX4_cross_126 : decode cX4_cross 126 = .ok (.lneg, 1) := by decide +kernel
theorem dX4_cross_127 : decode cX4_cross 127 = .ok (.lstore 9, 2) := by decide +kernel
theorem dX4_cross_129 : decode cX4_cross 129 = .ok (.lload 11, 2) := by decide +kernel
theorem dX4_cross_131 : decode cX4_cross 131 = .ok (.lneg, 1) := by decide +kernel
theorem dX4_cross_132 : decode cX4_cross 132 = .ok (.lstore 11, 2) := by decide +kernel
theorem dX4_cross_134 : decode cX4_cross 134 = .ok (.lload 9, 2) := by decide +kernel
theorem dX4_cross_136 : decode cX4_cross 136 = .ok (.lconst 0, 1) := by decide +kernel
theorem dX4_cross_137 : decode cX4_cross 137 = .ok (.lcmp, 1) := by decide +kernel
theorem dX4_cross_138 : decode cX4_cross 138 = .ok (.ifCond .lt 10, 3) := by decide +kernel
theorem dX4_cross_141 : decode cX4_cross 141 = .ok (.lload 11, 2) := by decide +kernel
theorem dX4_cross_143 : decode cX4_cross 143 = .ok (.lconst 0, 1) := by decide +kernel
theorem dX4_cross_144 : decode cX4_cross 144 = .ok (.lcmp, 1) := by decide +kernel
theorem dX4_cross_145 : decode cX4_cross 145 = .ok (.ifCond .ge 5, 3) := by decide +kernel
theorem dX4_cross_148 : decode cX4_cross 148 = .ok (.iconst 0, 1) := by decide +kernel
theorem dX4_cross_149 : decode cX4_cross 149 = .ok (.ireturn, 1) := by decide +kernel
theorem dX4_cross_150 : decode cX4_cross 150 = .ok (.aload_n 0, 1) := by decide +kernel
theorem dX4_cross_151 : decode cX4_cross 151 = .ok (.lload_n 3, 1) := by decide +kernel
theorem dX4_cross_152 : decode cX4_cross 152 = .ok (.putfield 24, 3) := by decide +kernel
theorem dX4_cross_155 : decode cX4_cross 155 = .ok (.aload_n 0, 1) := by decide +kernel
theorem dX4_cross_156 : decode cX4_cross 156 = .ok (.aload_n 0, 1) := by decide +kernel
theorem dX4_cross_157 : decode cX4_cross 157 = .ok (.getfield 9, 3) := by decide +kernel
theorem dX4_cross_160 : decode cX4_cross 160 = .ok (.iload_n 1, 1) := by decide +kernel
theorem dX4_cross_161 : decode cX4_cross 161 = .ok (.iaload, 1) := by decide +kernel
theorem dX4_cross_162 : decode cX4_cross 162 = .ok (.i2l, 1) := by decide +kernel
theorem dX4_cross_163 : decode cX4_cross 163 = .ok (.lload_n 3, 1) := by decide +kernel
theorem dX4_cross_164 : decode cX4_cross 164 = .ok (.lmul, 1) := by decide +kernel
theorem dX4_cross_165 : decode cX4_cross 165 = .ok (.lload 9, 2) := by decide +kernel
theorem dX4_cross_167 : decode cX4_cross 167 = .ok (.aload_n 0, 1) := by decide +kernel
theorem dX4_cross_168 : decode cX4_cross 168 = .ok (.getfield 18, 3) := by decide +kernel
theorem dX4_cross_171 : decode cX4_cross 171 = .ok (.iload_n 1, 1) := by decide +kernel
theorem dX4_cross_172 : decode cX4_cross 172 = .ok (.iaload, 1) := by decide +kernel
theorem dX4_cross_173 : decode cX4_cross 173 = .ok (.i2l, 1) := by decide +kernel
theorem dX4_cross_174 : decode cX4_cross 174 = .ok (.lmul, 1) := by decide +kernel
theorem dX4_cross_175 : decode cX4_cross 175 = .ok (.ladd, 1) := by decide +kernel
theorem dX4_cross_176 : decode cX4_cross 176 = .ok (.putfield 36, 3) := by decide +kernel
theorem dX4_cross_179 : decode cX4_cross 179 = .ok (.aload_n 0, 1) := by decide +kernel
theorem dX4_cross_180 : decode cX4_cross 180 = .ok (.aload_n 0, 1) := by decide +kernel
theorem dX4_cross_181 : decode cX4_cross 181 = .ok (.getfield 15, 3) := by decide +kernel
theorem dX4_cross_184 : decode cX4_cross 184 = .ok (.iload_n 1, 1) := by decide +kernel
theorem dX4_cross_185 : decode cX4_cross 185 = .ok (.iaload, 1) := by decide +kernel
theorem dX4_cross_186 : decode cX4_cross 186 = .ok (.i2l, 1) := by decide +kernel
theorem dX4_cross_187 : decode cX4_cross 187 = .ok (.lload_n 3, 1) := by decide +kernel
theorem dX4_cross_188 : decode cX4_cross 188 = .ok (.lmul, 1) := by decide +kernel
theorem dX4_cross_189 : decode cX4_cross 189 = .ok (.lload 9, 2) := by decide +kernel
theorem dX4_cross_191 : decode cX4_cross 191 = .ok (.aload_n 0, 1) := by decide +kernel
theorem dX4_cross_192 : decode cX4_cross 192 = .ok (.getfield 21, 3) := by decide +kernel
theorem dX4_cross_195 : decode cX4_cross 195 = .ok (.iload_n 1, 1) := by decide +kernel
theorem dX4_cross_196 : decode cX4_cross 196 = .ok (.iaload, 1) := by decide +kernel
theorem dX4_cross_197 : decode cX4_cross 197 = .ok (.i2l, 1) := by decide +kernel
theorem dX4_cross_198 : decode cX4_cross 198 = .ok (.lmul, 1) := by decide +kernel
theorem dX4_cross_199 : decode cX4_cross 199 = .ok (.ladd, 1) := by decide +kernel
theorem dX4_cross_200 : decode cX4_cross 200 = .ok (.putfield 39, 3) := by decide +kernel
theorem dX4_cross_203 : decode cX4_cross 203 = .ok (.iconst 1, 1) := by decide +kernel
theorem dX4_cross_204 : decode cX4_cross 204 = .ok (.ireturn, 1) := by decide +kernel
theorem dX4_partOfCross_0 : decode cX4_partOfCross 0 = .ok (.iload_n 1, 1) := by decide +kernel
theorem dX4_partOfCross_1 : decode cX4_partOfCross 1 = .ok (.iconst 2, 1) := by decide +kernel
theorem dX4_partOfCross_2 : decode cX4_partOfCross 2 = .ok (.if_icmp .ge 10, 3) := by decide +kernel
theorem dX4_partOfCross_5 : decode cX4_partOfCross 5 = .ok (.aload_n 0, 1) := by decide +kernel
theorem dX4_partOfCross_6 : decode cX4_partOfCross 6 = .ok (.getfield 36, 3) := by decide +kernel
theorem dX4_partOfCross_9 : decode cX4_partOfCross 9 = .ok (.goto 7, 3) := by decide +kernel
theorem dX4_partOfCross_12 : decode cX4_partOfCross 12 = .ok (.aload_n 0, 1) := by decide +kernel
theorem dX4_partOfCross_13 : decode cX4_partOfCross 13 = .ok (.getfield 39, 3) := by decide +kernel
theorem dX4_partOfCross_16 : decode cX4_partOfCross 16 = .ok (.lstore_n 2, 1) := by decide +kernel
theorem dX4_partOfCross_17 : decode cX4_partOfCross 17 = .ok (.lload_n 2, 1) := by decide +kernel
theorem dX4_partOfCross_18 : decode cX4_partOfCross 18 = .ok (.invokestatic 42, 3) := by decide +kernel
theorem dX4_partOfCross_21 : decode cX4_partOfCross 21 = .ok (.aload_n 0, 1) := by decide +kernel
theorem dX4_partOfCross_22 : decode cX4_partOfCross 22 = .ok (.getfield 24, 3) := by decide +kernel
theorem dX4_partOfCross_25 : decode cX4_partOfCross 25 = .ok (.invokestatic 48, 3) := by decide +kernel
theorem dX4_partOfCross_28 : decode cX4_partOfCross 28 = .ok (.lstore 4, 2) := by decide +kernel
theorem dX4_partOfCross_30 : decode cX4_partOfCross 30 = .ok (.lload 4, 2) := by decide +kernel
theorem dX4_partOfCross_32 : decode cX4_partOfCross 32 = .ok (.lconst 1, 1) := by decide +kernel
theorem dX4_partOfCross_33 : decode cX4_partOfCross 33 = .ok (.lcmp, 1) := by decide +kernel
theorem dX4_partOfCross_34 : decode cX4_partOfCross 34 = .ok (.ifCond .ge 7, 3) := by decide +kernel
theorem dX4_partOfCross_37 : decode cX4_partOfCross 37 = .ok (.ldc2_w 52, 3) := by decide +kernel
theorem dX4_partOfCross_40 : decode cX4_partOfCross 40 = .ok (.lreturn, 1) := by decide +kernel
theorem dX4_partOfCross_41 : decode cX4_partOfCross 41 = .ok (.iload_n 1, 1) := by decide +kernel
theorem dX4_partOfCross_42 : decode cX4_partOfCross 42 = .ok (.ifCond .eq 8, 3) := by decide +kernel
theorem dX4_partOfCross_45 : decode cX4_partOfCross 45 = .ok (.iload_n 1, 1) := by decide +kernel
theorem dX4_partOfCross_46 : decode cX4_partOfCross 46 = .ok (.iconst 2, 1) := by decide +kernel
theorem dX4_partOfCross_47 : decode cX4_partOfCross 47 = .ok (.if_icmp .ne 7, 3) := by decide +kernel
theorem dX4_partOfCross_50 : decode cX4_partOfCross 50 = .ok (.lload_n 2, 1) := by decide +kernel
theorem dX4_partOfCross_51 : decode cX4_partOfCross 51 = .ok (.goto 7, 3) := by decide +kernel
theorem dX4_partOfCross_54 : decode cX4_partOfCross 54 = .ok (.aload_n 0, 1) := by decide +kernel
theorem dX4_partOfCross_55 : decode cX4_partOfCross 55 = .ok (.getfield 24, 3) := by decide +kernel
theorem dX4_partOfCross_58 : decode cX4_partOfCross 58 = .ok (.lload 4, 2) := by decide +kernel
theorem dX4_partOfCross_60 : decode cX4_partOfCross 60 = .ok (.ldiv, 1) := by decide +kernel
theorem dX4_partOfCross_61 : decode cX4_partOfCross 61 = .ok (.lreturn, 1) := by decide +kernel
theorem dX4_bearers_0 : decode cX4_bearers 0 = .ok (.iconst 0, 1) := by decide +kernel
theorem dX4_bearers_1 : decode cX4_bearers 1 = .ok (.istore 4, 2) := by decide +kernel
theorem dX4_bearers_3 : decode cX4_bearers 3 = .ok (.iconst 0, 1) := by decide +kernel
theorem dX4_bearers_4 : decode cX4_bearers 4 = .ok (.istore 5, 2) := by decide +kernel
theorem dX4_bearers_6 : decode cX4_bearers 6 = .ok (.iload 5, 2) := by decide +kernel
theorem dX4_bearers_8 : decode cX4_bearers 8 = .ok (.aload_n 0, 1) := by decide +kernel
theorem dX4_bearers_9 : decode cX4_bearers 9 = .ok (.getfield 28, 3) := by decide +kernel
theorem dX4_bearers_12 : decode cX4_bearers 12 = .ok (.if_icmp .ge 41, 3) := by decide +kernel
theorem dX4_bearers_15 : decode cX4_bearers 15 = .ok (.iload 5, 2) := by decide +kernel
theorem dX4_bearers_17 : decode cX4_bearers 17 = .ok (.bipush 6, 2) := by decide +kernel
theorem dX4_bearers_19 : decode cX4_bearers 19 = .ok (.if_icmp .ge 34, 3) := by decide +kernel
theorem dX4_bearers_22 : decode cX4_bearers 22 = .ok (.iload 5, 2) := by decide +kernel
theorem dX4_bearers_24 : decode cX4_bearers 24 = .ok (.iload_n 1, 1) := by decide +kernel
theorem dX4_bearers_25 : decode cX4_bearers 25 = .ok (.if_icmp .eq 22, 3) := by decide +kernel
theorem dX4_bearers_28 : decode cX4_bearers 28 = .ok (.iload 5, 2) := by decide +kernel
theorem dX4_bearers_30 : decode cX4_bearers 30 = .ok (.iload_n 2, 1) := by decide +kernel
theorem dX4_bearers_31 : decode cX4_bearers 31 = .ok (.if_icmp .eq 16, 3) := by decide +kernel
theorem dX4_bearers_34 : decode cX4_bearers 34 = .ok (.aload_n 0, 1) := by decide +kernel
theorem dX4_bearers_35 : decode cX4_bearers 35 = .ok (.iload 5, 2) := by decide +kernel
theorem dX4_bearers_37 : decode cX4_bearers 37 = .ok (.iload_n 3, 1) := by decide +kernel
theorem dX4_bearers_38 : decode cX4_bearers 38 = .ok (.invokevirtual 54, 3) := by decide +kernel
theorem dX4_bearers_41 : decode cX4_bearers 41 = .ok (.ifCond .eq 6, 3) := by decide +kernel
theorem dX4_bearers_44 : decode cX4_bearers 44 = .ok (.iinc 4 1, 3) := by decide +kernel
theorem dX4_bearers_47 : decode cX4_bearers 47 = .ok (.iinc 5 1, 3) := by decide +kernel
theorem dX4_bearers_50 : decode cX4_bearers 50 = .ok (.goto (-44), 3) := by decide +kernel
theorem dX4_bearers_53 : decode cX4_bearers 53 = .ok (.iload 4, 2) := by decide +kernel
theorem dX4_bearers_55 : decode cX4_bearers 55 = .ok (.ireturn, 1) := by decide +kernel
theorem dX4_bearsOut_0 : decode cX4_bearsOut 0 = .ok (.aload_n 0, 1) := by decide +kernel
theorem dX4_bearsOut_1 : decode cX4_bearsOut 1 = .ok (.getfield 36, 3) := by decide +kernel
theorem dX4_bearsOut_4 : decode cX4_bearsOut 4 = .ok (.aload_n 0, 1) := by decide +kernel
theorem dX4_bearsOut_5 : decode cX4_bearsOut 5 = .ok (.getfield 9, 3) := by decide +kernel
theorem dX4_bearsOut_8 : decode cX4_bearsOut 8 = .ok (.iload_n 1, 1) := by decide +kernel
theorem dX4_bearsOut_9 : decode cX4_bearsOut 9 = .ok (.iaload, 1) := by decide +kernel
theorem dX4_bearsOut_10 : decode cX4_bearsOut 10 = .ok (.i2l, 1) := by decide +kernel
theorem dX4_bearsOut_11 : decode cX4_bearsOut 11 = .ok (.aload_n 0, 1) := by decide +kernel
theorem dX4_bearsOut_12 : decode cX4_bearsOut 12 = .ok (.getfield 24, 3) := by decide +kernel
theorem dX4_bearsOut_15 : decode cX4_bearsOut 15 = .ok (.lmul, 1) := by decide +kernel
theorem dX4_bearsOut_16 : decode cX4_bearsOut 16 = .ok (.lsub, 1) := by decide +kernel
theorem dX4_bearsOut_17 : decode cX4_bearsOut 17 = .ok (.lstore_n 3, 1) := by decide +kernel
theorem dX4_bearsOut_18 : decode cX4_bearsOut 18 = .ok (.aload_n 0, 1) := by decide +kernel
theorem dX4_bearsOut_19 : decode cX4_bearsOut 19 = .ok (.getfield 39, 3) := by decide +kernel
theorem dX4_bearsOut_22 : decode cX4_bearsOut 22 = .ok (.aload_n 0, 1) := by decide +kernel
theorem dX4_bearsOut_23 : decode cX4_bearsOut 23 = .ok (.getfield 15, 3) := by decide +kernel
theorem dX4_bearsOut_26 : decode cX4_bearsOut 26 = .ok (.iload_n 1, 1) := by decide +kernel
theorem dX4_bearsOut_27 : decode cX4_bearsOut 27 = .ok (.iaload, 1) := by decide +kernel
theorem dX4_bearsOut_28 : decode cX4_bearsOut 28 = .ok (.i2l, 1) := by decide +kernel
theorem dX4_bearsOut_29 : decode cX4_bearsOut 29 = .ok (.aload_n 0, 1) := by decide +kernel
theorem dX4_bearsOut_30 : decode cX4_bearsOut 30 = .ok (.getfield 24, 3) := by decide +kernel
theorem dX4_bearsOut_33 : decode cX4_bearsOut 33 = .ok (.lmul, 1) := by decide +kernel
theorem dX4_bearsOut_34 : decode cX4_bearsOut 34 = .ok (.lsub, 1) := by decide +kernel
theorem dX4_bearsOut_35 : decode cX4_bearsOut 35 = .ok (.lstore 5, 2) := by decide +kernel
theorem dX4_bearsOut_37 : decode cX4_bearsOut 37 = .ok (.aload_n 0, 1) := by decide +kernel
theorem dX4_bearsOut_38 : decode cX4_bearsOut 38 = .ok (.getfield 18, 3) := by decide +kernel
theorem dX4_bearsOut_41 : decode cX4_bearsOut 41 = .ok (.iload_n 1, 1) := by decide +kernel
theorem dX4_bearsOut_42 : decode cX4_bearsOut 42 = .ok (.iaload, 1) := by decide +kernel
theorem dX4_bearsOut_43 : decode cX4_bearsOut 43 = .ok (.i2l, 1) := by decide +kernel
theorem dX4_bearsOut_44 : decode cX4_bearsOut 44 = .ok (.lload_n 3, 1) := by decide +kernel
theorem dX4_bearsOut_45 : decode cX4_bearsOut 45 = .ok (.lmul, 1) := by decide +kernel
theorem dX4_bearsOut_46 : decode cX4_bearsOut 46 = .ok (.aload_n 0, 1) := by decide +kernel
theorem dX4_bearsOut_47 : decode cX4_bearsOut 47 = .ok (.getfield 21, 3) := by decide +kernel
theorem dX4_bearsOut_50 : decode cX4_bearsOut 50 = .ok (.iload_n 1, 1) := by decide +kernel
theorem dX4_bearsOut_51 : decode cX4_bearsOut 51 = .ok (.iaload, 1) := by decide +kernel
theorem dX4_bearsOut_52 : decode cX4_bearsOut 52 = .ok (.i2l, 1) := by decide +kernel
theorem dX4_bearsOut_53 : decode cX4_bearsOut 53 = .ok (.lload 5, 2) := by decide +kernel
theorem dX4_bearsOut_55 : decode cX4_bearsOut 55 = .ok (.lmul, 1) := by decide +kernel
theorem dX4_bearsOut_56 : decode cX4_bearsOut 56 = .ok (.ladd, 1) := by decide +kernel
theorem dX4_bearsOut_57 : decode cX4_bearsOut 57 = .ok (.lconst 0, 1) := by decide +kernel
theorem dX4_bearsOut_58 : decode cX4_bearsOut 58 = .ok (.lcmp, 1) := by decide +kernel
theorem dX4_bearsOut_59 : decode cX4_bearsOut 59 = .ok (.ifCond .ge 5, 3) := by decide +kernel
theorem dX4_bearsOut_62 : decode cX4_bearsOut 62 = .ok (.iconst 0, 1) := by decide +kernel
theorem dX4_bearsOut_63 : decode cX4_bearsOut 63 = .ok (.ireturn, 1) := by decide +kernel
theorem dX4_bearsOut_64 : decode cX4_bearsOut 64 = .ok (.aload_n 0, 1) := by decide +kernel
theorem dX4_bearsOut_65 : decode cX4_bearsOut 65 = .ok (.getfield 21, 3) := by decide +kernel
theorem dX4_bearsOut_68 : decode cX4_bearsOut 68 = .ok (.iload_n 1, 1) := by decide +kernel
theorem dX4_bearsOut_69 : decode cX4_bearsOut 69 = .ok (.iaload, 1) := by decide +kernel
theorem dX4_bearsOut_70 : decode cX4_bearsOut 70 = .ok (.i2l, 1) := by decide +kernel
theorem dX4_bearsOut_71 : decode cX4_bearsOut 71 = .ok (.lload_n 3, 1) := by decide +kernel
theorem dX4_bearsOut_72 : decode cX4_bearsOut 72 = .ok (.lmul, 1) := by decide +kernel
theorem dX4_bearsOut_73 : decode cX4_bearsOut 73 = .ok (.aload_n 0, 1) := by decide +kernel
theorem dX4_bearsOut_74 : decode cX4_bearsOut 74 = .ok (.getfield 18, 3) := by decide +kernel
theorem dX4_bearsOut_77 : decode cX4_bearsOut 77 = .ok (.iload_n 1, 1) := by decide +kernel
theorem dX4_bearsOut_78 : decode cX4_bearsOut 78 = .ok (.iaload, 1) := by decide +kernel
theorem dX4_bearsOut_79 : decode cX4_bearsOut 79 = .ok (.i2l, 1) := by decide +kernel
theorem dX4_bearsOut_80 : decode cX4_bearsOut 80 = .ok (.lload 5, 2) := by decide +kernel
theorem dX4_bearsOut_82 : decode cX4_bearsOut 82 = .ok (.lmul, 1) := by decide +kernel
theorem dX4_bearsOut_83 : decode cX4_bearsOut 83 = .ok (.lsub, 1) := by decide +kernel
theorem dX4_bearsOut_84 : decode cX4_bearsOut 84 = .ok (.lstore 7, 2) := by decide +kernel
theorem dX4_bearsOut_86 : decode cX4_bearsOut 86 = .ok (.aload_n 0, 1) := by decide +kernel
theorem dX4_bearsOut_87 : decode cX4_bearsOut 87 = .ok (.getfield 18, 3) := by decide +kernel
theorem dX4_bearsOut_90 : decode cX4_bearsOut 90 = .ok (.iload_n 1, 1) := by decide +kernel
theorem dX4_bearsOut_91 : decode cX4_bearsOut 91 = .ok (.iaload, 1) := by decide +kernel
theorem dX4_bearsOut_92 : decode cX4_bearsOut 92 = .ok (.aload_n 0, 1) := by decide +kernel
theorem dX4_bearsOut_93 : decode cX4_bearsOut 93 = .ok (.getfield 18, 3) := by decide +kernel
theorem dX4_bearsOut_96 : decode cX4_bearsOut 96 = .ok (.iload_n 1, 1) := by decide +kernel
theorem dX4_bearsOut_97 : decode cX4_bearsOut 97 = .ok (.iaload, 1) := by decide +kernel
theorem dX4_bearsOut_98 : decode cX4_bearsOut 98 = .ok (.imul, 1) := by decide +kernel
theorem dX4_bearsOut_99 : decode cX4_bearsOut 99 = .ok (.aload_n 0, 1) := by decide +kernel
theorem dX4_bearsOut_100 : decode cX4_bearsOut 100 = .ok (.getfield 21, 3) := by decide +kernel
theorem dX4_bearsOut_103 : decode cX4_bearsOut 103 = .ok (.iload_n 1, 1) := by decide +kernel
theorem dX4_bearsOut_104 : decode cX4_bearsOut 104 = .ok (.iaload, 1) := by decide +kernel
theorem dX4_bearsOut_105 : decode cX4_bearsOut 105 = .ok (.aload_n 0, 1) := by decide +kernel
theorem dX4_bearsOut_106 : decode cX4_bearsOut 106 = .ok (.getfield 21, 3) := by decide +kernel
theorem dX4_bearsOut_109 : decode cX4_bearsOut 109 = .ok (.iload_n 1, 1) := by decide +kernel
theorem dX4_bearsOut_110 : decode cX4_bearsOut 110 = .ok (.iaload, 1) := by decide +kernel
theorem dX4_bearsOut_111 : decode cX4_bearsOut 111 = .ok (.imul, 1) := by decide +kernel
theorem dX4_bearsOut_112 : decode cX4_bearsOut 112 = .ok (.iadd, 1) := by decide +kernel
theorem dX4_bearsOut_113 : decode cX4_bearsOut 113 = .ok (.i2l, 1) := by decide +kernel
theorem dX4_bearsOut_114 : decode cX4_bearsOut 114 = .ok (.lstore 9, 2) := by decide +kernel
theorem dX4_bearsOut_116 : decode cX4_bearsOut 116 = .ok (.lload 7, 2) := by decide +kernel
theorem dX4_bearsOut_118 : decode cX4_bearsOut 118 = .ok (.lload 7, 2) := by decide +kernel
theorem dX4_bearsOut_120 : decode cX4_bearsOut 120 = .ok (.lmul, 1) := by decide +kernel
theorem dX4_bearsOut_121 : decode cX4_bearsOut 121 = .ok (.iload_n 2, 1) := by decide +kernel
theorem dX4_bearsOut_122 : decode cX4_bearsOut 122 = .ok (.i2l, 1) := by decide +kernel
theorem dX4_bearsOut_123 : decode cX4_bearsOut 123 = .ok (.aload_n 0, 1) := by decide +kernel
theorem dX4_bearsOut_124 : decode cX4_bearsOut 124 = .ok (.getfield 24, 3) := by decide +kernel
theorem dX4_bearsOut_127 : decode cX4_bearsOut 127 = .ok (.lmul, 1) := by decide +kernel
theorem dX4_bearsOut_128 : decode cX4_bearsOut 128 = .ok (.iload_n 2, 1) := by decide +kernel
theorem dX4_bearsOut_129 : decode cX4_bearsOut 129 = .ok (.i2l, 1) := by decide +kernel
theorem dX4_bearsOut_130 : decode cX4_bearsOut 130 = .ok (.aload_n 0, 1) := by decide +kernel
theorem dX4_bearsOut_131 : decode cX4_bearsOut 131 = .ok (.getfield 24, 3) := by decide +kernel
theorem dX4_bearsOut_134 : decode cX4_bearsOut 134 = .ok (.lmul, 1) := by decide +kernel
theorem dX4_bearsOut_135 : decode cX4_bearsOut 135 = .ok (.lmul, 1) := by decide +kernel
theorem dX4_bearsOut_136 : decode cX4_bearsOut 136 = .ok (.lload 9, 2) := by decide +kernel
theorem dX4_bearsOut_138 : decode cX4_bearsOut 138 = .ok (.lmul, 1) := by decide +kernel
theorem dX4_bearsOut_139 : decode cX4_bearsOut 139 = .ok (.lcmp, 1) := by decide +kernel
theorem dX4_bearsOut_140 : decode cX4_bearsOut 140 = .ok (.ifCond .gt 7, 3) := by decide +kernel
theorem dX4_bearsOut_143 : decode cX4_bearsOut 143 = .ok (.iconst 1, 1) := by decide +kernel
theorem dX4_bearsOut_144 : decode cX4_bearsOut 144 = .ok (.goto 4, 3) := by decide +kernel
theorem dX4_bearsOut_147 : decode cX4_bearsOut 147 = .ok (.iconst 0, 1) := by decide +kernel
theorem dX4_bearsOut_148 : decode cX4_bearsOut 148 = .ok (.ireturn, 1) := by decide +kernel
theorem dX4_mostBorne_0 : decode cX4_mostBorne 0 = .ok (.iconst (-1), 1) := by decide +kernel
theorem dX4_mostBorne_1 : decode cX4_mostBorne 1 = .ok (.istore_n 3, 1) := by decide +kernel
theorem dX4_mostBorne_2 : decode cX4_mostBorne 2 = .ok (.iconst (-1), 1) := by decide +kernel
theorem dX4_mostBorne_3 : decode cX4_mostBorne 3 = .ok (.istore 4, 2) := by decide +kernel
theorem dX4_mostBorne_5 : decode cX4_mostBorne 5 = .ok (.iconst (-1), 1) := by decide +kernel
theorem dX4_mostBorne_6 : decode cX4_mostBorne 6 = .ok (.istore 5, 2) := by decide +kernel
theorem dX4_mostBorne_8 : decode cX4_mostBorne 8 = .ok (.iconst 0, 1) := by decide +kernel
theorem dX4_mostBorne_9 : decode cX4_mostBorne 9 = .ok (.istore 6, 2) := by decide +kernel
theorem dX4_mostBorne_11 : decode cX4_mostBorne 11 = .ok (.iload 6, 2) := by decide +kernel
theorem dX4_mostBorne_13 : decode cX4_mostBorne 13 = .ok (.aload_n 0, 1) := by decide +kernel
theorem dX4_mostBorne_14 : decode cX4_mostBorne 14 = .ok (.getfield 28, 3) := by decide +kernel
theorem dX4_mostBorne_17 : decode cX4_mostBorne 17 = .ok (.if_icmp .ge 84, 3) := by decide +kernel
theorem dX4_mostBorne_20 : decode cX4_mostBorne 20 = .ok (.iload 6, 2) := by decide +kernel
theorem dX4_mostBorne_22 : decode cX4_mostBorne 22 = .ok (.bipush 6, 2) := by decide +kernel
theorem dX4_mostBorne_24 : decode cX4_mostBorne 24 = .ok (.if_icmp .ge 77, 3) := by decide +kernel
theorem dX4_mostBorne_27 : decode cX4_mostBorne 27 = .ok (.iload 6, 2) := by decide +kernel
theorem dX4_mostBorne_29 : decode cX4_mostBorne 29 = .ok (.iconst 1, 1) := by decide +kernel
theorem dX4_mostBorne_30 : decode cX4_mostBorne 30 = .ok (.iadd, 1) := by decide +kernel
theorem dX4_mostBorne_31 : decode cX4_mostBorne 31 = .ok (.istore 7, 2) := by decide +kernel
theorem dX4_mostBorne_33 : decode cX4_mostBorne 33 = .ok (.iload 7, 2) := by decide +kernel
theorem dX4_mostBorne_35 : decode cX4_mostBorne 35 = .ok (.aload_n 0, 1) := by decide +kernel
theorem dX4_mostBorne_36 : decode cX4_mostBorne 36 = .ok (.getfield 28, 3) := by decide +kernel
theorem dX4_mostBorne_39 : decode cX4_mostBorne 39 = .ok (.if_icmp .ge 56, 3) := by decide +kernel
theorem dX4_mostBorne_42 : decode cX4_mostBorne 42 = .ok (.iload 7, 2) := by decide +kernel
theorem dX4_mostBorne_44 : decode cX4_mostBorne 44 = .ok (.bipush 6, 2) := by decide +kernel
theorem dX4_mostBorne_46 : decode cX4_mostBorne 46 = .ok (.if_icmp .ge 49, 3) := by decide +kernel
theorem dX4_mostBorne_49 : decode cX4_mostBorne 49 = .ok (.aload_n 0, 1) := by decide +kernel
theorem dX4_mostBorne_50 : decode cX4_mostBorne 50 = .ok (.iload 6, 2) := by decide +kernel
theorem dX4_mostBorne_52 : decode cX4_mostBorne 52 = .ok (.iload 7, 2) := by decide +kernel
theorem dX4_mostBorne_54 : decode cX4_mostBorne 54 = .ok (.invokevirtual 58, 3) := by decide +kernel
theorem dX4_mostBorne_57 : decode cX4_mostBorne 57 = .ok (.ifCond .eq 32, 3) := by decide +kernel
theorem dX4_mostBorne_60 : decode cX4_mostBorne 60 = .ok (.aload_n 0, 1) := by decide +kernel
theorem dX4_mostBorne_61 : decode cX4_mostBorne 61 = .ok (.iload 6, 2) := by decide +kernel
theorem dX4_mostBorne_63 : decode cX4_mostBorne 63 = .ok (.iload 7, 2) := by decide +kernel
theorem dX4_mostBorne_65 : decode cX4_mostBorne 65 = .ok (.iload_n 1, 1) := by decide +kernel
theorem dX4_mostBorne_66 : decode cX4_mostBorne 66 = .ok (.invokevirtual 61, 3) := by decide +kernel
theorem dX4_mostBorne_69 : decode cX4_mostBorne 69 = .ok (.istore 8, 2) := by decide +kernel
theorem dX4_mostBorne_71 : decode cX4_mostBorne 71 = .ok (.iload 8, 2) := by decide +kernel
theorem dX4_mostBorne_73 : decode cX4_mostBorne 73 = .ok (.iload 5, 2) := by decide +kernel
theorem dX4_mostBorne_75 : decode cX4_mostBorne 75 = .ok (.if_icmp .le 14, 3) := by decide +kernel
theorem dX4_mostBorne_78 : decode cX4_mostBorne 78 = .ok (.iload 8, 2) := by decide +kernel
theorem dX4_mostBorne_80 : decode cX4_mostBorne 80 = .ok (.istore 5, 2) := by decide +kernel
theorem dX4_mostBorne_82 : decode cX4_mostBorne 82 = .ok (.iload 6, 2) := by decide +kernel
theorem dX4_mostBorne_84 : decode cX4_mostBorne 84 = .ok (.istore_n 3, 1) := by decide +kernel
theorem dX4_mostBorne_85 : decode cX4_mostBorne 85 = .ok (.iload 7, 2) := by decide +kernel
theorem dX4_mostBorne_87 : decode cX4_mostBorne 87 = .ok (.istore 4, 2) := by decide +kernel
theorem dX4_mostBorne_89 : decode cX4_mostBorne 89 = .ok (.iinc 7 1, 3) := by decide +kernel
theorem dX4_mostBorne_92 : decode cX4_mostBorne 92 = .ok (.goto (-59), 3) := by decide +kernel
theorem dX4_mostBorne_95 : decode cX4_mostBorne 95 = .ok (.iinc 6 1, 3) := by decide +kernel
theorem dX4_mostBorne_98 : decode cX4_mostBorne 98 = .ok (.goto (-87), 3) := by decide +kernel
theorem dX4_mostBorne_101 : decode cX4_mostBorne 101 = .ok (.iload_n 2, 1) := by decide +kernel
theorem dX4_mostBorne_102 : decode cX4_mostBorne 102 = .ok (.ifCond .ne 5, 3) := by decide +kernel
theorem dX4_mostBorne_105 : decode cX4_mostBorne 105 = .ok (.iload_n 3, 1) := by decide +kernel
theorem dX4_mostBorne_106 : decode cX4_mostBorne 106 = .ok (.ireturn, 1) := by decide +kernel
theorem dX4_mostBorne_107 : decode cX4_mostBorne 107 = .ok (.iload_n 2, 1) := by decide +kernel
theorem dX4_mostBorne_108 : decode cX4_mostBorne 108 = .ok (.iconst 1, 1) := by decide +kernel
theorem dX4_mostBorne_109 : decode cX4_mostBorne 109 = .ok (.if_icmp .ne 8, 3) := by decide +kernel
theorem dX4_mostBorne_112 : decode cX4_mostBorne 112 = .ok (.iload 4, 2) := by decide +kernel
theorem dX4_mostBorne_114 : decode cX4_mostBorne 114 = .ok (.goto 5, 3) := by decide +kernel
theorem dX4_mostBorne_117 : decode cX4_mostBorne 117 = .ok (.iload 5, 2) := by decide +kernel
theorem dX4_mostBorne_119 : decode cX4_mostBorne 119 = .ok (.ireturn, 1) := by decide +kernel
