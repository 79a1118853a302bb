theorem dX6_look_56 : decode cX6_look 56 = .ok (.iload_n 1, 1) := by decide +kernel
theorem dX6_look_57 : decode cX6_look 57 = .ok (.iload_n 2, 1) := by decide +kernel
theorem dX6_look_58 : decode cX6_look 58 = .ok (.i2l, 1) := by decide +kernel
theorem dX6_look_59 : decode cX6_look 59 = .ok (.lastore, 1) := by decide +kernel
theorem dX6_look_60 : decode cX6_look 60 = .ok (.aload_n 0, 1) := by decide +kernel
theorem dX6_look_61 : decode cX6_look 61 = .ok (.getfield 40, 3) := by decide +kernel
theorem dX6_look_64 : decode cX6_look 64 = .ok (.iload_n 1, 1) := by decide +kernel
theorem dX6_look_65 : decode cX6_look 65 = .ok (.iload_n 3, 1) := by decide +kernel
theorem dX6_look_66 : decode cX6_look 66 = .ok (.i2l, 1) := by decide +kernel
theorem dX6_look_67 : decode cX6_look 67 = .ok (.lastore, 1) := by decide +kernel
theorem dX6_look_68 : decode cX6_look 68 = .ok (.iconst 1, 1) := by decide +kernel
theorem dX6_look_69 : decode cX6_look 69 = .ok (.ireturn, 1) := by decide +kernel
theorem dX6_cross_0 : decode cX6_cross 0 = .ok (.aload_n 0, 1) := by decide +kernel
theorem dX6_cross_1 : decode cX6_cross 1 = .ok (.getfield 37, 3) := by decide +kernel
theorem dX6_cross_4 : decode cX6_cross 4 = .ok (.iload_n 1, 1) := by decide +kernel
theorem dX6_cross_5 : decode cX6_cross 5 = .ok (.laload, 1) := by decide +kernel
theorem dX6_cross_6 : decode cX6_cross 6 = .ok (.aload_n 0, 1) := by decide +kernel
theorem dX6_cross_7 : decode cX6_cross 7 = .ok (.getfield 40, 3) := by decide +kernel
theorem dX6_cross_10 : decode cX6_cross 10 = .ok (.iload_n 2, 1) := by decide +kernel
theorem dX6_cross_11 : decode cX6_cross 11 = .ok (.laload, 1) := by decide +kernel
theorem dX6_cross_12 : decode cX6_cross 12 = .ok (.lmul, 1) := by decide +kernel
theorem dX6_cross_13 : decode cX6_cross 13 = .ok (.aload_n 0, 1) := by decide +kernel
theorem dX6_cross_14 : decode cX6_cross 14 = .ok (.getfield 37, 3) := by decide +kernel
theorem dX6_cross_17 : decode cX6_cross 17 = .ok (.iload_n 2, 1) := by decide +kernel
theorem dX6_cross_18 : decode cX6_cross 18 = .ok (.laload, 1) := by decide +kernel
theorem dX6_cross_19 : decode cX6_cross 19 = .ok (.aload_n 0, 1) := by decide +kernel
theorem dX6_cross_20 : decode cX6_cross 20 = .ok (.getfield 40, 3) := by decide +kernel
theorem dX6_cross_23 : decode cX6_cross 23 = .ok (.iload_n 1, 1) := by decide +kernel
theorem dX6_cross_24 : decode cX6_cross 24 = .ok (.laload, 1) := by decide +kernel
theorem dX6_cross_25 : decode cX6_cross 25 = .ok (.lmul, 1) := by decide +kernel
theorem dX6_cross_26 : decode cX6_cross 26 = .ok (.lsub, 1) := by decide +kernel
theorem dX6_cross_27 : decode cX6_cross 27 = .ok (.lstore_n 3, 1) := by decide +kernel
theorem dX6_cross_28 : decode cX6_cross 28 = .ok (.iload_n 1, 1) := by decide +kernel
theorem dX6_cross_29 : decode cX6_cross 29 = .ok (.iload_n 2, 1) := by decide +kernel
theorem dX6_cross_30 : decode cX6_cross 30 = .ok (.if_icmp .eq 9, 3) := by decide +kernel
theorem dX6_cross_33 : decode cX6_cross 33 = .ok (.lload_n 3, 1) := by decide +kernel
theorem dX6_cross_34 : decode cX6_cross 34 = .ok (.lconst 0, 1) := by decide +kernel
theorem dX6_cross_35 : decode cX6_cross 35 = .ok (.lcmp, 1) := by decide +kernel
theorem dX6_cross_36 : decode cX6_cross 36 = .ok (.ifCond .ne 5, 3) := by decide +kernel
theorem dX6_cross_39 : decode cX6_cross 39 = .ok (.iconst 0, 1) := by decide +kernel
theorem dX6_cross_40 : decode cX6_cross 40 = .ok (.ireturn, 1) := by decide +kernel
theorem dX6_cross_41 : decode cX6_cross 41 = .ok (.aload_n 0, 1) := by decide +kernel
theorem dX6_cross_42 : decode cX6_cross 42 = .ok (.getfield 30, 3) := by decide +kernel
theorem dX6_cross_45 : decode cX6_cross 45 = .ok (.iload_n 2, 1) := by decide +kernel
theorem dX6_cross_46 : decode cX6_cross 46 = .ok (.laload, 1) := by decide +kernel
theorem dX6_cross_47 : decode cX6_cross 47 = .ok (.aload_n 0, 1) := by decide +kernel
theorem dX6_cross_48 : decode cX6_cross 48 = .ok (.getfield 30, 3) := by decide +kernel
theorem dX6_cross_51 : decode cX6_cross 51 = .ok (.iload_n 1, 1) := by decide +kernel
theorem dX6_cross_52 : decode cX6_cross 52 = .ok (.laload, 1) := by decide +kernel
theorem dX6_cross_53 : decode cX6_cross 53 = .ok (.lsub, 1) := by decide +kernel
theorem dX6_cross_54 : decode cX6_cross 54 = .ok (.lstore 5, 2) := by decide +kernel
theorem dX6_cross_56 : decode cX6_cross 56 = .ok (.aload_n 0, 1) := by decide +kernel
theorem dX6_cross_57 : decode cX6_cross 57 = .ok (.getfield 34, 3) := by decide +kernel
theorem dX6_cross_60 : decode cX6_cross 60 = .ok (.iload_n 2, 1) := by decide +kernel
theorem dX6_cross_61 : decode cX6_cross 61 = .ok (.laload, 1) := by decide +kernel
theorem dX6_cross_62 : decode cX6_cross 62 = .ok (.aload_n 0, 1) := by decide +kernel
theorem dX6_cross_63 : decode cX6_cross 63 = .ok (.getfield 34, 3) := by decide +kernel
theorem dX6_cross_66 : decode cX6_cross 66 = .ok (.iload_n 1, 1) := by decide +kernel
theorem dX6_cross_67 : decode cX6_cross 67 = .ok (.laload, 1) := by decide +kernel
theorem dX6_cross_68 : decode cX6_cross 68 = .ok (.lsub, 1) := by decide +kernel
theorem dX6_cross_69 : decode cX6_cross 69 = .ok (.lstore 7, 2) := by decide +kernel
theorem dX6_cross_71 : decode cX6_cross 71 = .ok (.lload 5, 2) := by decide +kernel
theorem dX6_cross_73 : decode cX6_cross 73 = .ok (.aload_n 0, 1) := by decide +kernel
theorem dX6_cross_74 : decode cX6_cross 74 = .ok (.getfield 40, 3) := by decide +kernel
theorem dX6_cross_77 : decode cX6_cross 77 = .ok (.iload_n 2, 1) := by decide +kernel
theorem dX6_cross_78 : decode cX6_cross 78 = .ok (.laload, 1) := by decide +kernel
theorem dX6_cross_79 : decode cX6_cross 79 = .ok (.lmul, 1) := by decide +kernel
theorem dX6_cross_80 : decode cX6_cross 80 = .ok (.lload 7, 2) := by decide +kernel
theorem dX6_cross_82 : decode cX6_cross 82 = .ok (.aload_n 0, 1) := by decide +kernel
theorem dX6_cross_83 : decode cX6_cross 83 = .ok (.getfield 37, 3) := by decide +kernel
theorem dX6_cross_86 : decode cX6_cross 86 = .ok (.iload_n 2, 1) := by decide +kernel
theorem dX6_cross_87 : decode cX6_cross 87 = .ok (.laload, 1) := by decide +kernel
theorem dX6_cross_88 : decode cX6_cross 88 = .ok (.lmul, 1) := by decide +kernel
theorem dX6_cross_89 : decode cX6_cross 89 = .ok (.lsub, 1) := by decide +kernel
theorem dX6_cross_90 : decode cX6_cross 90 = .ok (.lstore 9, 2) := by decide +kernel
theorem dX6_cross_92 : decode cX6_cross 92 = .ok (.lload 5, 2) := by decide +kernel
theorem dX6_cross_94 : decode cX6_cross 94 = .ok (.aload_n 0, 1) := by decide +kernel
theorem dX6_cross_95 : decode cX6_cross 95 = .ok (.getfield 40, 3) := by decide +kernel
theorem dX6_cross_98 : decode cX6_cross 98 = .ok (.iload_n 1, 1) := by decide +kernel
theorem dX6_cross_99 : decode cX6_cross 99 = .ok (.laload, 1) := by decide +kernel
theorem dX6_cross_100 : decode cX6_cross 100 = .ok (.lmul, 1) := by decide +kernel
theorem dX6_cross_101 : decode cX6_cross 101 = .ok (.lload 7, 2) := by decide +kernel
theorem dX6_cross_103 : decode cX6_cross 103 = .ok (.aload_n 0, 1) := by decide +kernel
theorem dX6_cross_104 : decode cX6_cross 104 = .ok (.getfield 37, 3) := by decide +kernel
theorem dX6_cross_107 : decode cX6_cross 107 = .ok (.iload_n 1, 1) := by decide +kernel
theorem dX6_cross_108 : decode cX6_cross 108 = .ok (.laload, 1) := by decide +kernel
theorem dX6_cross_109 : decode cX6_cross 109 = .ok (.lmul, 1) := by decide +kernel
theorem dX6_cross_110 : decode cX6_cross 110 = .ok (.lsub, 1) := by decide +kernel
theorem dX6_cross_111 : decode cX6_cross 111 = .ok (.lstore 11, 2) := by decide +kernel
theorem dX6_cross_113 : decode cX6_cross 113 = .ok (.lload_n 3, 1) := by decide +kernel
theorem dX6_cross_114 : decode cX6_cross 114 = .ok (.lconst 0, 1) := by decide +kernel
theorem dX6_cross_115 : decode cX6_cross 115 = .ok (.lcmp, 1) := by decide +kernel
theorem dX6_cross_116 : decode cX6_cross 116 = .ok (.ifCond .ge 16, 3) := by decide +kernel
theorem dX6_cross_119 : decode cX6_cross 119 = .ok (.lload_n 3, 1) := by decide +kernel
theorem dX6_cross_120 : decode cX6_cross 120 = .ok (.lneg, 1) := by decide +kernel
theorem dX6_cross_121 : decode cX6_cross 121 = .ok (.lstore_n 3, 1) := by decide +kernel
theorem dX6_cross_122 : decode cX6_cross 122 = .ok (.lload 9, 2) := by decide +kernel
theorem dX6_cross_124 : decode cX6_cross 124 = .ok (.lneg, 1) := by decide +kernel
theorem dX6_cross_125 : decode cX6_cross 125 = .ok (.lstore 9, 2) := by decide +kernel
theorem dX6_cross_127 : decode cX6_cross 127 = .ok (.lload 11, 2) := by decide +kernel
theorem dX6_cross_129 : decode cX6_cross 129 = .ok (.lneg, 1) := by decide +kernel
theorem dX6_cross_130 : decode cX6_cross 130 = .ok (.lstore 11, 2) := by decide +kernel
theorem dX6_cross_132 : decode cX6_cross 132 = .ok (.aload_n 0, 1) := by decide +kernel
theorem dX6_cross_133 : decode cX6_cross 133 = .ok (.aload_n 0, 1) := by decide +kernel
theorem dX6_cross_134 : decode cX6_cross 134 = .ok (.getfield 30, 3) := by decide +kernel
theorem dX6_cross_137 : decode cX6_cross 137 = .ok (.iload_n 1, 1) := by decide +kernel
theorem dX6_cross_138 : decode cX6_cross 138 = .ok (.laload, 1) := by decide +kernel
theorem dX6_cross_139 : decode cX6_cross 139 = .ok (.lload_n 3, 1) := by decide +kernel
theorem dX6_cross_140 : decode cX6_cross 140 = .ok (.lmul, 1) := by decide +kernel
theorem dX6_cross_141 : decode cX6_cross 141 = .ok (.lload 9, 2) := by decide +kernel
theorem dX6_cross_143 : decode cX6_cross 143 = .ok (.aload_n 0, 1) := by decide +kernel
theorem dX6_cross_144 : decode cX6_cross 144 = .ok (.getfield 37, 3) := by decide +kernel
theorem dX6_cross_147 : decode cX6_cross 147 = .ok (.iload_n 1, 1) := by decide +kernel
theorem dX6_cross_148 : decode cX6_cross 148 = .ok (.laload, 1) := by decide +kernel
theorem dX6_cross_149 : decode cX6_cross 149 = .ok (.lmul, 1) := by decide +kernel
theorem dX6_cross_150 : decode cX6_cross 150 = .ok (.ladd, 1) := by decide +kernel
theorem dX6_cross_151 : decode cX6_cross 151 = .ok (.putfield 167, 3) := by decide +kernel
theorem dX6_cross_154 : decode cX6_cross 154 = .ok (.aload_n 0, 1) := by decide +kernel
theorem dX6_cross_155 : decode cX6_cross 155 = .ok (.aload_n 0, 1) := by decide +kernel
theorem dX6_cross_156 : decode cX6_cross 156 = .ok (.getfield 34, 3) := by decide +kernel
theorem dX6_cross_159 : decode cX6_cross 159 = .ok (.iload_n 1, 1) := by decide +kernel
theorem dX6_cross_160 : decode cX6_cross 160 = .ok (.laload, 1) := by decide +kernel
theorem dX6_cross_161 : decode cX6_cross 161 = .ok (.lload_n 3, 1) := by decide +kernel
theorem dX6_cross_162 : decode cX6_cross 162 = .ok (.lmul, 1) := by decide +kernel
theorem dX6_cross_163 : decode cX6_cross 163 = .ok (.lload 9, 2) := by decide +kernel
theorem dX6_cross_165 : decode cX6_cross 165 = .ok (.aload_n 0, 1) := by decide +kernel
theorem dX6_cross_166 : decode cX6_cross 166 = .ok (.getfield 40, 3) := by decide +kernel
theorem dX6_cross_169 : decode cX6_cross 169 = .ok (.iload_n 1, 1) := by decide +kernel
theorem dX6_cross_170 : decode cX6_cross 170 = .ok (.laload, 1) := by decide +kernel
theorem dX6_cross_171 : decode cX6_cross 171 = .ok (.lmul, 1) := by decide +kernel
theorem dX6_cross_172 : decode cX6_cross 172 = .ok (.ladd, 1) := by decide +kernel
theorem dX6_cross_173 : decode cX6_cross 173 = .ok (.putfield 171, 3) := by decide +kernel
theorem dX6_cross_176 : decode cX6_cross 176 = .ok (.aload_n 0, 1) := by decide +kernel
theorem dX6_cross_177 : decode cX6_cross 177 = .ok (.lload_n 3, 1) := by decide +kernel
theorem dX6_cross_178 : decode cX6_cross 178 = .ok (.putfield 174, 3) := by decide +kernel
theorem dX6_cross_181 : decode cX6_cross 181 = .ok (.lload 9, 2) := by decide +kernel
theorem dX6_cross_183 : decode cX6_cross 183 = .ok (.lconst 0, 1) := by decide +kernel
theorem dX6_cross_184 : decode cX6_cross 184 = .ok (.lcmp, 1) := by decide +kernel
theorem dX6_cross_185 : decode cX6_cross 185 = .ok (.ifCond .lt 14, 3) := by decide +kernel
theorem dX6_cross_188 : decode cX6_cross 188 = .ok (.lload 11, 2) := by decide +kernel
theorem dX6_cross_190 : decode cX6_cross 190 = .ok (.lconst 0, 1) := by decide +kernel
theorem dX6_cross_191 : decode cX6_cross 191 = .ok (.lcmp, 1) := by decide +kernel
theorem dX6_cross_192 : decode cX6_cross 192 = .ok (.ifCond .lt 7, 3) := by decide +kernel
theorem dX6_cross_195 : decode cX6_cross 195 = .ok (.iconst 1, 1) := by decide +kernel
theorem dX6_cross_196 : decode cX6_cross 196 = .ok (.goto 4, 3) := by decide +kernel
theorem dX6_cross_199 : decode cX6_cross 199 = .ok (.iconst 0, 1) := by decide +kernel
theorem dX6_cross_200 : decode cX6_cross 200 = .ok (.ireturn, 1) := by decide +kernel
theorem dX6_common_0 : decode cX6_common 0 = .ok (.lload_n 0, 1) := by decide +kernel
theorem dX6_common_1 : decode cX6_common 1 = .ok (.lconst 0, 1) := by decide +kernel
theorem dX6_common_2 : decode cX6_common 2 = .ok (.lcmp, 1) := by decide +kernel
theorem dX6_common_3 : decode cX6_common 3 = .ok (.ifCond .ge 8, 3) := by decide +kernel
theorem dX6_common_6 : decode cX6_common 6 = .ok (.lload_n 0, 1) := by decide +kernel
theorem dX6_common_7 : decode cX6_common 7 = .ok (.lneg, 1) := by decide +kernel
theorem dX6_common_8 : decode cX6_common 8 = .ok (.goto 4, 3) := by decide +kernel
theorem dX6_common_11 : decode cX6_common 11 = .ok (.lload_n 0, 1) := by decide +kernel
theorem dX6_common_12 : decode cX6_common 12 = .ok (.lstore 4, 2) := by decide +kernel
theorem dX6_common_14 : decode cX6_common 14 = .ok (.lload_n 2, 1) := by decide +kernel
theorem dX6_common_15 : decode cX6_common 15 = .ok (.lstore 6, 2) := by decide +kernel
theorem dX6_common_17 : decode cX6_common 17 = .ok (.lload 6, 2) := by decide +kernel
theorem dX6_common_19 : decode cX6_common 19 = .ok (.lconst 0, 1) := by decide +kernel
theorem dX6_common_20 : decode cX6_common 20 = .ok (.lcmp, 1) := by decide +kernel
theorem dX6_common_21 : decode cX6_common 21 = .ok (.ifCond .eq 21, 3) := by decide +kernel
theorem dX6_common_24 : decode cX6_common 24 = .ok (.lload 4, 2) := by decide +kernel
theorem dX6_common_26 : decode cX6_common 26 = .ok (.lload 6, 2) := by decide +kernel
theorem dX6_common_28 : decode cX6_common 28 = .ok (.lrem, 1) := by decide +kernel
theorem dX6_common_29 : decode cX6_common 29 = .ok (.lstore 8, 2) := by decide +kernel
theorem dX6_common_31 : decode cX6_common 31 = .ok (.lload 6, 2) := by decide +kernel
theorem dX6_common_33 : decode cX6_common 33 = .ok (.lstore 4, 2) := by decide +kernel
theorem dX6_common_35 : decode cX6_common 35 = .ok (.lload 8, 2) := by decide +kernel
theorem dX6_common_37 : decode cX6_common 37 = .ok (.lstore 6, 2) := by decide +kernel
theorem dX6_common_39 : decode cX6_common 39 = .ok (.goto (-22), 3) := by decide +kernel
theorem dX6_common_42 : decode cX6_common 42 = .ok (.lload 4, 2) := by decide +kernel
theorem dX6_common_44 : decode cX6_common 44 = .ok (.lreturn, 1) := by decide +kernel
theorem dX6_crossing_0 : decode cX6_crossing 0 = .ok (.aload_n 0, 1) := by decide +kernel
theorem dX6_crossing_1 : decode cX6_crossing 1 = .ok (.iload_n 1, 1) := by decide +kernel
theorem dX6_crossing_2 : decode cX6_crossing 2 = .ok (.invokevirtual 164, 3) := by decide +kernel
theorem dX6_crossing_5 : decode cX6_crossing 5 = .ok (.ifCond .eq 11, 3) := by decide +kernel
theorem dX6_crossing_8 : decode cX6_crossing 8 = .ok (.aload_n 0, 1) := by decide +kernel
theorem dX6_crossing_9 : decode cX6_crossing 9 = .ok (.iload_n 2, 1) := by decide +kernel
theorem dX6_crossing_10 : decode cX6_crossing 10 = .ok (.invokevirtual 164, 3) := by decide +kernel
theorem dX6_crossing_13 : decode cX6_crossing 13 = .ok (.ifCond .ne 7, 3) := by decide +kernel
theorem dX6_crossing_16 : decode cX6_crossing 16 = .ok (.ldc2_w 177, 3) := by decide +kernel
theorem dX6_crossing_19 : decode cX6_crossing 19 = .ok (.lreturn, 1) := by decide +kernel
theorem dX6_crossing_20 : decode cX6_crossing 20 = .ok (.iload_n 3, 1) := by decide +kernel
theorem dX6_crossing_21 : decode cX6_crossing 21 = .ok (.i2l, 1) := by decide +kernel
theorem dX6_crossing_22 : decode cX6_crossing 22 = .ok (.lconst 0, 1) := by decide +kernel
theorem dX6_crossing_23 : decode cX6_crossing 23 = .ok (.ldc2_w 179, 3) := by decide +kernel
theorem dX6_crossing_26 : decode cX6_crossing 26 = .ok (.invokestatic 65, 3) := by decide +kernel
theorem dX6_crossing_29 : decode cX6_crossing 29 = .ok (.ifCond .ne 7, 3) := by decide +kernel
theorem dX6_crossing_32 : decode cX6_crossing 32 = .ok (.ldc2_w 181, 3) := by decide +kernel
theorem dX6_crossing_35 : decode cX6_crossing 35 = .ok (.lreturn, 1) := by decide +kernel
theorem dX6_crossing_36 : decode cX6_crossing 36 = .ok (.aload_n 0, 1) := by decide +kernel
theorem dX6_crossing_37 : decode cX6_crossing 37 = .ok (.iload_n 1, 1) := by decide +kernel
theorem dX6_crossing_38 : decode cX6_crossing 38 = .ok (.iload_n 2, 1) := by decide +kernel
theorem dX6_crossing_39 : decode cX6_crossing 39 = .ok (.invokevirtual 183, 3) := by decide +kernel
theorem dX6_crossing_42 : decode cX6_crossing 42 = .ok (.ifCond .ne 7, 3) := by decide +kernel
theorem dX6_crossing_45 : decode cX6_crossing 45 = .ok (.ldc2_w 186, 3) := by decide +kernel
theorem dX6_crossing_48 : decode cX6_crossing 48 = .ok (.lreturn, 1) := by decide +kernel
theorem dX6_crossing_49 : decode cX6_crossing 49 = .ok (.iload_n 3, 1) := by decide +kernel
theorem dX6_crossing_50 : decode cX6_crossing 50 = .ok (.iconst 2, 1) := by decide +kernel
theorem dX6_crossing_51 : decode cX6_crossing 51 = .ok (.if_icmp .ge 10, 3) := by decide +kernel
theorem dX6_crossing_54 : decode cX6_crossing 54 = .ok (.aload_n 0, 1) := by decide +kernel
theorem dX6_crossing_55 : decode cX6_crossing 55 = .ok (.getfield 167, 3) := by decide +kernel
theorem dX6_crossing_58 : decode cX6_crossing 58 = .ok (.goto 7, 3) := by decide +kernel
theorem dX6_crossing_61 : decode cX6_crossing 61 = .ok (.aload_n 0, 1) := by decide +kernel
theorem dX6_crossing_62 : decode cX6_crossing 62 = .ok (.getfield 171, 3) := by decide +kernel
theorem dX6_crossing_65 : decode cX6_crossing 65 = .ok (.lstore 4, 2) := by decide +kernel
theorem dX6_crossing_67 : decode cX6_crossing 67 = .ok (.lload 4, 2) := by decide +kernel
theorem dX6_crossing_69 : decode cX6_crossing 69 = .ok (.aload_n 0, 1) := by decide +kernel
theorem dX6_crossing_70 : decode cX6_crossing 70 = .ok (.getfield 174, 3) := by decide +kernel
theorem dX6_crossing_73 : decode cX6_crossing 73 = .ok (.invokestatic 188, 3) := by decide +kernel
theorem dX6_crossing_76 : decode cX6_crossing 76 = .ok (.lstore 6, 2) := by decide +kernel
theorem dX6_crossing_78 : decode cX6_crossing 78 = .ok (.iload_n 3, 1) := by decide +kernel
theorem dX6_crossing_79 : decode cX6_crossing 79 = .ok (.iconst 2, 1) := by decide +kernel
theorem dX6_crossing_80 : decode cX6_crossing 80 = .ok (.irem, 1) := by decide +kernel
theorem dX6_crossing_81 : decode cX6_crossing 81 = .ok (.ifCond .ne 11, 3) := by decide +kernel
theorem dX6_crossing_84 : decode cX6_crossing 84 = .ok (.lload 4, 2) := by decide +kernel
theorem dX6_crossing_86 : decode cX6_crossing 86 = .ok (.lload 6, 2) := by decide +kernel
theorem dX6_crossing_88 : decode cX6_crossing 88 = .ok (.ldiv, 1) := by decide +kernel
theorem dX6_crossing_89 : decode cX6_crossing 89 = .ok (.goto 10, 3) := by decide +kernel
theorem dX6_crossing_92 : decode cX6_crossing 92 = .ok (.aload_n 0, 1) := by decide +kernel
theorem dX6_crossing_93 : decode cX6_crossing 93 = .ok (.getfield 174, 3) := by decide +kernel
theorem dX6_crossing_96 : decode cX6_crossing 96 = .ok (.lload 6, 2) := by decide +kernel
theorem dX6_crossing_98 : decode cX6_crossing 98 = .ok (.ldiv, 1) := by decide +kernel
theorem dX6_crossing_99 : decode cX6_crossing 99 = .ok (.lreturn, 1) := by decide +kernel
theorem dX6_bears_0 : decode cX6_bears 0 = .ok (.aload_n 0, 1) := by decide +kernel
theorem dX6_bears_1 : decode cX6_bears 1 = .ok (.getfield 167, 3) := by decide +kernel
theorem dX6_bears_4 : decode cX6_bears 4 = .ok (.aload_n 0, 1) := by decide +kernel
theorem dX6_bears_5 : decode cX6_bears 5 = .ok (.getfield 30, 3) := by decide +kernel
theorem dX6_bears_8 : decode cX6_bears 8 = .ok (.iload_n 1, 1) := by decide +kernel
theorem dX6_bears_9 : decode cX6_bears 9 = .ok (.laload, 1) := by decide +kernel
theorem dX6_bears_10 : decode cX6_bears 10 = .ok (.aload_n 0, 1) := by decide +kernel
theorem dX6_bears_11 : decode cX6_bears 11 = .ok (.getfield 174, 3) := by decide +kernel
theorem dX6_bears_14 : decode cX6_bears 14 = .ok (.lmul, 1) := by decide +kernel
theorem dX6_bears_15 : decode cX6_bears 15 = .ok (.lsub, 1) := by decide +kernel
theorem dX6_bears_16 : decode cX6_bears 16 = .ok (.lstore_n 3, 1) := by decide +kernel
theorem dX6_bears_17 : decode cX6_bears 17 = .ok (.aload_n 0, 1) := by decide +kernel
theorem dX6_bears_18 : decode cX6_bears 18 = .ok (.getfield 171, 3) := by decide +kernel
theorem dX6_bears_21 : decode cX6_bears 21 = .ok (.aload_n 0, 1) := by decide +kernel
theorem dX6_bears_22 : decode cX6_bears 22 = .ok (.getfield 34, 3) := by decide +kernel
theorem dX6_bears_25 : decode cX6_bears 25 = .ok (.iload_n 1, 1) := by decide +kernel
theorem dX6_bears_26 : decode cX6_bears 26 = .ok (.laload, 1) := by decide +kernel
theorem dX6_bears_27 : decode cX6_bears 27 = .ok (.aload_n 0, 1) := by decide +kernel
theorem dX6_bears_28 : decode cX6_bears 28 = .ok (.getfield 174, 3) := by decide +kernel
theorem dX6_bears_31 : decode cX6_bears 31 = .ok (.lmul, 1) := by decide +kernel
theorem dX6_bears_32 : decode cX6_bears 32 = .ok (.lsub, 1) := by decide +kernel
theorem dX6_bears_33 : decode cX6_bears 33 = .ok (.lstore 5, 2) := by decide +kernel
theorem dX6_bears_35 : decode cX6_bears 35 = .ok (.lload_n 3, 1) := by decide +kernel
theorem dX6_bears_36 : decode cX6_bears 36 = .ok (.aload_n 0, 1) := by decide +kernel
theorem dX6_bears_37 : decode cX6_bears 37 = .ok (.getfield 40, 3) := by decide +kernel
theorem dX6_bears_40 : decode cX6_bears 40 = .ok (.iload_n 1, 1) := by decide +kernel
theorem dX6_bears_41 : decode cX6_bears 41 = .ok (.laload, 1) := by decide +kernel
theorem dX6_bears_42 : decode cX6_bears 42 = .ok (.lmul, 1) := by decide +kernel
theorem dX6_bears_43 : decode cX6_bears 43 = .ok (.lload 5, 2) := by decide +kernel
theorem dX6_bears_45 : decode cX6_bears 45 = .ok (.aload_n 0, 1) := by decide +kernel
theorem dX6_bears_46 : decode cX6_bears 46 = .ok (.getfield 37, 3) := by decide +kernel
theorem dX6_bears_49 : decode cX6_bears 49 = .ok (.iload_n 1, 1) := by decide +kernel
theorem dX6_bears_50 : decode cX6_bears 50 = .ok (.laload, 1) := by decide +kernel
theorem dX6_bears_51 : decode cX6_bears 51 = .ok (.lmul, 1) := by decide +kernel
theorem dX6_bears_52 : decode cX6_bears 52 = .ok (.lsub, 1) := by decide +kernel
theorem dX6_bears_53 : decode cX6_bears 53 = .ok (.lstore 7, 2) := by decide +kernel
theorem dX6_bears_55 : decode cX6_bears 55 = .ok (.iload_n 2, 1) := by decide +kernel
theorem dX6_bears_56 : decode cX6_bears 56 = .ok (.i2l, 1) := by decide +kernel
theorem dX6_bears_57 : decode cX6_bears 57 = .ok (.iload_n 2, 1) := by decide +kernel
theorem dX6_bears_58 : decode cX6_bears 58 = .ok (.i2l, 1) := by decide +kernel
theorem dX6_bears_59 : decode cX6_bears 59 = .ok (.lmul, 1) := by decide +kernel
theorem dX6_bears_60 : decode cX6_bears 60 = .ok (.aload_n 0, 1) := by decide +kernel
theorem dX6_bears_61 : decode cX6_bears 61 = .ok (.getfield 174, 3) := by decide +kernel
theorem dX6_bears_64 : decode cX6_bears 64 = .ok (.lmul, 1) := by decide +kernel
theorem dX6_bears_65 : decode cX6_bears 65 = .ok (.aload_n 0, 1) := by decide +kernel
theorem dX6_bears_66 : decode cX6_bears 66 = .ok (.getfield 174, 3) := by decide +kernel
theorem dX6_bears_69 : decode cX6_bears 69 = .ok (.lmul, 1) := by decide +kernel
theorem dX6_bears_70 : decode cX6_bears 70 = .ok (.aload_n 0, 1) := by decide +kernel
theorem dX6_bears_71 : decode cX6_bears 71 = .ok (.getfield 37, 3) := by decide +kernel
theorem dX6_bears_74 : decode cX6_bears 74 = .ok (.iload_n 1, 1) := by decide +kernel
theorem dX6_bears_75 : decode cX6_bears 75 = .ok (.laload, 1) := by decide +kernel
theorem dX6_bears_76 : decode cX6_bears 76 = .ok (.aload_n 0, 1) := by decide +kernel
theorem dX6_bears_77 : decode cX6_bears 77 = .ok (.getfield 37, 3) := by decide +kernel
theorem dX6_bears_80 : decode cX6_bears 80 = .ok (.iload_n 1, 1) := by decide +kernel
theorem dX6_bears_81 : decode cX6_bears 81 = .ok (.laload, 1) := by decide +kernel
theorem dX6_bears_82 : decode cX6_bears 82 = .ok (.lmul, 1) := by decide +kernel
theorem dX6_bears_83 : decode cX6_bears 83 = .ok (.aload_n 0, 1) := by decide +kernel
theorem dX6_bears_84 : decode cX6_bears 84 = .ok (.getfield 40, 3) := by decide +kernel
theorem dX6_bears_87 : decode cX6_bears 87 = .ok (.iload_n 1, 1) := by decide +kernel
theorem dX6_bears_88 : decode cX6_bears 88 = .ok (.laload, 1) := by decide +kernel
theorem dX6_bears_89 : decode cX6_bears 89 = .ok (.aload_n 0, 1) := by decide +kernel
theorem dX6_bears_90 : decode cX6_bears 90 = .ok (.getfield 40, 3) := by decide +kernel
theorem dX6_bears_93 : decode cX6_bears 93 = .ok (.iload_n 1, 1) := by decide +kernel
theorem dX6_bears_94 : decode cX6_bears 94 = .ok (.laload, 1) := by decide +kernel
theorem dX6_bears_95 : decode cX6_bears 95 = .ok (.lmul, 1) := by decide +kernel
theorem dX6_bears_96 : decode cX6_bears 96 = .ok (.ladd, 1) := by decide +kernel
theorem dX6_bears_97 : decode cX6_bears 97 = .ok (.lmul, 1) := by decide +kernel
theorem dX6_bears_98 : decode cX6_bears 98 = .ok (.lstore 9, 2) := by decide +kernel
theorem dX6_bears_100 : decode cX6_bears 100 = .ok (.lload_n 3, 1) := by decide +kernel
theorem dX6_bears_101 : decode cX6_bears 101 = .ok (.aload_n 0, 1) := by decide +kernel
theorem dX6_bears_102 : decode cX6_bears 102 = .ok (.getfield 37, 3) := by decide +kernel
theorem dX6_bears_105 : decode cX6_bears 105 = .ok (.iload_n 1, 1) := by decide +kernel
theorem dX6_bears_106 : decode cX6_bears 106 = .ok (.laload, 1) := by decide +kernel
theorem dX6_bears_107 : decode cX6_bears 107 = .ok (.lmul, 1) := by decide +kernel
theorem dX6_bears_108 : decode cX6_bears 108 = .ok (.lload 5, 2) := by decide +kernel
theorem dX6_bears_110 : decode cX6_bears 110 = .ok (.aload_n 0, 1) := by decide +kernel
theorem dX6_bears_111 : decode cX6_bears 111 = .ok (.getfield 40, 3) := by decide +kernel
theorem dX6_bears_114 : decode cX6_bears 114 = .ok (.iload_n 1, 1) := by decide +kernel
theorem dX6_bears_115 : decode cX6_bears 115 = .ok (.laload, 1) := by decide +kernel
theorem dX6_bears_116 : decode cX6_bears 116 = .ok (.lmul, 1) := by decide +kernel
theorem dX6_bears_117 : decode cX6_bears 117 = .ok (.ladd, 1) := by decide +kernel
theorem dX6_bears_118 : decode cX6_bears 118 = .ok (.lconst 0, 1) := by decide +kernel
theorem dX6_bears_119 : decode cX6_bears 119 = .ok (.lcmp, 1) := by decide +kernel
theorem dX6_bears_120 : decode cX6_bears 120 = .ok (.ifCond .lt 18, 3) := by decide +kernel
theorem dX6_bears_123 : decode cX6_bears 123 = .ok (.lload 7, 2) := by decide +kernel
theorem dX6_bears_125 : decode cX6_bears 125 = .ok (.lload 7, 2) := by decide +kernel
theorem dX6_bears_127 : decode cX6_bears 127 = .ok (.lmul, 1) := by decide +kernel
theorem dX6_bears_128 : decode cX6_bears 128 = .ok (.lload 9, 2) := by decide +kernel
theorem dX6_bears_130 : decode cX6_bears 130 = .ok (.lcmp, 1) := by decide +kernel
theorem dX6_bears_131 : decode cX6_bears 131 = .ok (.ifCond .gt 7, 3) := by decide +kernel
theorem dX6_bears_134 : decode cX6_bears 134 = .ok (.iconst 1, 1) := by decide +kernel
theorem dX6_bears_135 : decode cX6_bears 135 = .ok (.goto 4, 3) := by decide +kernel
theorem dX6_bears_138 : decode cX6_bears 138 = .ok (.iconst 0, 1) := by decide +kernel
theorem dX6_bears_139 : decode cX6_bears 139 = .ok (.ireturn, 1) := by decide +kernel
theorem dX6_bearers_0 : decode cX6_bearers 0 = .ok (.iconst 0, 1) := by decide +kernel
theorem dX6_bearers_1 : decode cX6_bearers 1 = .ok (.istore 4, 2) := by decide +kernel
theorem dX6_bearers_3 : decode cX6_bearers 3 = .ok (.iconst 0, 1) := by decide +kernel
theorem dX6_bearers_4 : decode cX6_bearers 4 = .ok (.istore 5, 2) := by decide +kernel
theorem dX6_bearers_6 : decode cX6_bearers 6 = .ok (.iload 5, 2) := by decide +kernel
theorem dX6_bearers_8 : decode cX6_bearers 8 = .ok (.aload_n 0, 1) := by decide +kernel
theorem dX6_bearers_9 : decode cX6_bearers 9 = .ok (.getfield 99, 3) := by decide +kernel
theorem dX6_bearers_12 : decode cX6_bearers 12 = .ok (.if_icmp .ge 41, 3) := by decide +kernel
theorem dX6_bearers_15 : decode cX6_bearers 15 = .ok (.iload 4, 2) := by decide +kernel
theorem dX6_bearers_17 : decode cX6_bearers 17 = .ok (.iload 5, 2) := by decide +kernel
theorem dX6_bearers_19 : decode cX6_bearers 19 = .ok (.iload_n 1, 1) := by decide +kernel
theorem dX6_bearers_20 : decode cX6_bearers 20 = .ok (.if_icmp .eq 23, 3) := by decide +kernel
theorem dX6_bearers_23 : decode cX6_bearers 23 = .ok (.iload 5, 2) := by decide +kernel
theorem dX6_bearers_25 : decode cX6_bearers 25 = .ok (.iload_n 2, 1) := by decide +kernel
theorem dX6_bearers_26 : decode cX6_bearers 26 = .ok (.if_icmp .eq 17, 3) := by decide +kernel
theorem dX6_bearers_29 : decode cX6_bearers 29 = .ok (.aload_n 0, 1) := by decide +kernel
theorem dX6_bearers_30 : decode cX6_bearers 30 = .ok (.iload 5, 2) := by decide +kernel
theorem dX6_bearers_32 : decode cX6_bearers 32 = .ok (.iload_n 3, 1) := by decide +kernel
theorem dX6_bearers_33 : decode cX6_bearers 33 = .ok (.invokevirtual 192, 3) := by decide +kernel
theorem dX6_bearers_36 : decode cX6_bearers 36 = .ok (.ifCond .eq 7, 3) := by decide +kernel
theorem dX6_bearers_39 : decode cX6_bearers 39 = .ok (.iconst 1, 1) := by decide +kernel
theorem dX6_bearers_40 : decode cX6_bearers 40 = .ok (.goto 4, 3) := by decide +kernel
theorem dX6_bearers_43 : decode cX6_bearers 43 = .ok (.iconst 0, 1) := by decide +kernel
theorem dX6_bearers_44 : decode cX6_bearers 44 = .ok (.iadd, 1) := by decide +kernel
theorem dX6_bearers_45 : decode cX6_bearers 45 = .ok (.istore 4, 2) := by decide +kernel
theorem dX6_bearers_47 : decode cX6_bearers 47 = .ok (.iinc 5 1, 3) := by decide +kernel
theorem dX6_bearers_50 : decode cX6_bearers 50 = .ok (.goto (-44), 3) := by decide +kernel
theorem dX6_bearers_53 : decode cX6_bearers 53 = .ok (.iload 4, 2) := by decide +kernel
theorem dX6_bearers_55 : decode cX6_bearers 55 = .ok (.ireturn, 1) := by decide +kernel
theorem dX6_borne_0 : decode cX6_borne 0 = .ok (.aload_n 0, 1) := by decide +kernel
theorem dX6_borne_1 : decode cX6_borne 1 = .ok (.iload_n 1, 1) := by decide +kernel
theorem dX6_borne_2 : decode cX6_borne 2 = .ok (.invokevirtual 164, 3) := by decide +kernel
theorem dX6_borne_5 : decode cX6_borne 5 = .ok (.ifCond .eq 11, 3) := by decide +kernel
theorem dX6_borne_8 : decode cX6_borne 8 = .ok (.aload_n 0, 1) := by decide +kernel
theorem dX6_borne_9 : decode cX6_borne 9 = .ok (.iload_n 2, 1) := by decide +kernel
theorem dX6_borne_10 : decode cX6_borne 10 = .ok (.invokevirtual 164, 3) := by decide +kernel
theorem dX6_borne_13 : decode cX6_borne 13 = .ok (.ifCond .ne 7, 3) := by decide +kernel
theorem dX6_borne_16 : decode cX6_borne 16 = .ok (.sipush (-1001), 3) := by decide +kernel
theorem dX6_borne_19 : decode cX6_borne 19 = .ok (.ireturn, 1) := by decide +kernel
theorem dX6_borne_20 : decode cX6_borne 20 = .ok (.iload_n 3, 1) := by decide +kernel
theorem dX6_borne_21 : decode cX6_borne 21 = .ok (.i2l, 1) := by decide +kernel
theorem dX6_borne_22 : decode cX6_borne 22 = .ok (.lconst 0, 1) := by decide +kernel
theorem dX6_borne_23 : decode cX6_borne 23 = .ok (.ldc2_w 195, 3) := by decide +kernel
theorem dX6_borne_26 : decode cX6_borne 26 = .ok (.invokestatic 65, 3) := by decide +kernel
theorem dX6_borne_29 : decode cX6_borne 29 = .ok (.ifCond .ne 7, 3) := by decide +kernel
theorem dX6_borne_32 : decode cX6_borne 32 = .ok (.sipush (-1002), 3) := by decide +kernel
theorem dX6_borne_35 : decode cX6_borne 35 = .ok (.ireturn, 1) := by decide +kernel
theorem dX6_borne_36 : decode cX6_borne 36 = .ok (.aload_n 0, 1) := by decide +kernel
theorem dX6_borne_37 : decode cX6_borne 37 = .ok (.iload_n 1, 1) := by decide +kernel
theorem dX6_borne_38 : decode cX6_borne 38 = .ok (.iload_n 2, 1) := by decide +kernel
theorem dX6_borne_39 : decode cX6_borne 39 = .ok (.invokevirtual 183, 3) := by decide +kernel
theorem dX6_borne_42 : decode cX6_borne 42 = .ok (.ifCond .eq 13, 3) := by decide +kernel
theorem dX6_borne_45 : decode cX6_borne 45 = .ok (.aload_n 0, 1) := by decide +kernel
theorem dX6_borne_46 : decode cX6_borne 46 = .ok (.iload_n 1, 1) := by decide +kernel
theorem dX6_borne_47 : decode cX6_borne 47 = .ok (.iload_n 2, 1) := by decide +kernel
theorem dX6_borne_48 : decode cX6_borne 48 = .ok (.iload_n 3, 1) := by decide +kernel
theorem dX6_borne_49 : decode cX6_borne 49 = .ok (.invokevirtual 197, 3) := by decide +kernel
theorem dX6_borne_52 : decode cX6_borne 52 = .ok (.goto 6, 3) := by decide +kernel
theorem dX6_borne_55 : decode cX6_borne 55 = .ok (.sipush (-1003), 3) := by decide +kernel
theorem dX6_borne_58 : decode cX6_borne 58 = .ok (.ireturn, 1) := by decide +kernel
theorem dX6_most_0 : decode cX6_most 0 = .ok (.iload_n 1, 1) := by decide +kernel
theorem dX6_most_1 : decode cX6_most 1 = .ok (.i2l, 1) := by decide +kernel
theorem dX6_most_2 : decode cX6_most 2 = .ok (.lconst 0, 1) := by decide +kernel
theorem dX6_most_3 : decode cX6_most 3 = .ok (.ldc2_w 195, 3) := by decide +kernel
theorem dX6_most_6 : decode cX6_most 6 = .ok (.invokestatic 65, 3) := by decide +kernel
theorem dX6_most_9 : decode cX6_most 9 = .ok (.ifCond .eq 15, 3) := by decide +kernel
theorem dX6_most_12 : decode cX6_most 12 = .ok (.iload_n 2, 1) := by decide +kernel
theorem dX6_most_13 : decode cX6_most 13 = .ok (.i2l, 1) := by decide +kernel
theorem dX6_most_14 : decode cX6_most 14 = .ok (.lconst 0, 1) := by decide +kernel
theorem dX6_most_15 : decode cX6_most 15 = .ok (.ldc2_w 155, 3) := by decide +kernel
theorem dX6_most_18 : decode cX6_most 18 = .ok (.invokestatic 65, 3) := by decide +kernel
theorem dX6_most_21 : decode cX6_most 21 = .ok (.ifCond .ne 7, 3) := by decide +kernel
theorem dX6_most_24 : decode cX6_most 24 = .ok (.sipush (-1002), 3) := by decide +kernel
theorem dX6_most_27 : decode cX6_most 27 = .ok (.ireturn, 1) := by decide +kernel
theorem dX6_most_28 : decode cX6_most 28 = .ok (.iconst (-1), 1) := by decide +kernel
theorem dX6_most_29 : decode cX6_most 29 = .ok (.istore_n 3, 1) := by decide +kernel
theorem dX6_most_30 : decode cX6_most 30 = .ok (.iconst (-1), 1) := by decide +kernel
theorem dX6_most_31 : decode cX6_most 31 = .ok (.istore 4, 2) := by decide +kernel
theorem dX6_most_33 : decode cX6_most 33 = .ok (.iconst (-1), 1) := by decide +kernel
theorem dX6_most_34 : decode cX6_most 34 = .ok (.istore 5, 2) := by decide +kernel
theorem dX6_most_36 : decode cX6_most 36 = .ok (.iconst 0, 1) := by decide +kernel
theorem dX6_most_37 : decode cX6_most 37 = .ok (.istore 6, 2) := by decide +kernel
theorem dX6_most_39 : decode cX6_most 39 = .ok (.iload 6, 2) := by decide +kernel
theorem dX6_most_41 : decode cX6_most 41 = .ok (.aload_n 0, 1) := by decide +kernel
theorem dX6_most_42 : decode cX6_most 42 = .ok (.getfield 99, 3) := by decide +kernel
theorem dX6_most_45 : decode cX6_most 45 = .ok (.if_icmp .ge 73, 3) := by decide +kernel
theorem dX6_most_48 : decode cX6_most 48 = .ok (.iload 6, 2) := by decide +kernel
theorem dX6_most_50 : decode cX6_most 50 = .ok (.iconst 1, 1) := by decide +kernel
theorem dX6_most_51 : decode cX6_most 51 = .ok (.iadd, 1) := by decide +kernel
theorem dX6_most_52 : decode cX6_most 52 = .ok (.istore 7, 2) := by decide +kernel
theorem dX6_most_54 : decode cX6_most 54 = .ok (.iload 7, 2) := by decide +kernel
theorem dX6_most_56 : decode cX6_most 56 = .ok (.aload_n 0, 1) := by decide +kernel
theorem dX6_most_57 : decode cX6_most 57 = .ok (.getfield 99, 3) := by decide +kernel
theorem dX6_most_60 : decode cX6_most 60 = .ok (.if_icmp .ge 52, 3) := by decide +kernel
theorem dX6_most_63 : decode cX6_most 63 = .ok (.aload_n 0, 1) := by decide +kernel
theorem dX6_most_64 : decode cX6_most 64 = .ok (.iload 6, 2) := by decide +kernel
theorem dX6_most_66 : decode cX6_most 66 = .ok (.iload 7, 2) := by decide +kernel
theorem dX6_most_68 : decode cX6_most 68 = .ok (.invokevirtual 183, 3) := by decide +kernel
theorem dX6_most_71 : decode cX6_most 71 = .ok (.ifCond .eq 15, 3) := by decide +kernel
theorem dX6_most_74 : decode cX6_most 74 = .ok (.aload_n 0, 1) := by decide +kernel
theorem dX6_most_75 : decode cX6_most 75 = .ok (.iload 6, 2) := by decide +kernel
theorem dX6_most_77 : decode cX6_most 77 = .ok (.iload 7, 2) := by decide +kernel
theorem dX6_most_79 : decode cX6_most 79 = .ok (.iload_n 1, 1) := by decide +kernel
theorem dX6_most_80 : decode cX6_most 80 = .ok (.invokevirtual 197, 3) := by decide +kernel
theorem dX6_most_83 : decode cX6_most 83 = .ok (.goto 4, 3) := by decide +kernel
theorem dX6_most_86 : decode cX6_most 86 = .ok (.iconst (-1), 1) := by decide +kernel
theorem dX6_most_87 : decode cX6_most 87 = .ok (.istore 8, 2) := by decide +kernel
theorem dX6_most_89 : decode cX6_most 89 = .ok (.iload 8, 2) := by decide +kernel
theorem dX6_most_91 : decode cX6_most 91 = .ok (.iload_n 3, 1) := by decide +kernel
theorem dX6_most_92 : decode cX6_most 92 = .ok (.if_icmp .le 14, 3) := by decide +kernel
theorem dX6_most_95 : decode cX6_most 95 = .ok (.iload 8, 2) := by decide +kernel
theorem dX6_most_97 : decode cX6_most 97 = .ok (.istore_n 3, 1) := by decide +kernel
theorem dX6_most_98 : decode cX6_most 98 = .ok (.iload 6, 2) := by decide +kernel
theorem dX6_most_100 : decode cX6_most 100 = .ok (.istore 4, 2) := by decide +kernel
theorem dX6_most_102 : decode cX6_most 102 = .ok (.iload 7, 2) := by decide +kernel
theorem dX6_most_104 : decode cX6_most 104 = .ok (.istore 5, 2) := by decide +kernel
theorem dX6_most_106 : decode cX6_most 106 = .ok (.iinc 7 1, 3) := by decide +kernel
theorem dX6_most_109 : decode cX6_most 109 = .ok (.goto (-55), 3) := by decide +kernel
theorem dX6_most_112 : decode cX6_most 112 = .ok (.iinc 6 1, 3) := by decide +kernel
theorem dX6_most_115 : decode cX6_most 115 = .ok (.goto (-76), 3) := by decide +kernel
theorem dX6_most_118 : decode cX6_most 118 = .ok (.iload_n 2, 1) := by decide +kernel
theorem dX6_most_119 : decode cX6_most 119 = .ok (.ifCond .ne 8, 3) := by decide +kernel
theorem dX6_most_122 : decode cX6_most 122 = .ok (.iload 4, 2) := by decide +kernel
theorem dX6_most_124 : decode cX6_most 124 = .ok (.goto 14, 3) := by decide +kernel
theorem dX6_most_127 : decode cX6_most 127 = .ok (.iload_n 2, 1) := by decide +kernel
theorem dX6_most_128 : decode cX6_most 128 = .ok (.iconst 1, 1) := by decide +kernel
theorem dX6_most_129 : decode cX6_most 129 = .ok (.if_icmp .ne 8, 3) := by decide +kernel
theorem dX6_most_132 : decode cX6_most 132 = .ok (.iload 5, 2) := by decide +kernel
theorem dX6_most_134 : decode cX6_most 134 = .ok (.goto 4, 3) := by decide +kernel
theorem dX6_most_137 : decode cX6_most 137 = .ok (.iload_n 3, 1) := by decide +kernel
theorem dX6_most_138 : decode cX6_most 138 = .ok (.ireturn, 1) := by decide +kernel
