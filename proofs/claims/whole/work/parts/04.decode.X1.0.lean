theorem dX1_init_0 : decode cX1_init 0 = .ok (.aload_n 0, 1) := by decide +kernel
theorem dX1_init_1 : decode cX1_init 1 = .ok (.invokespecial 3, 3) := by decide +kernel
theorem dX1_init_4 : decode cX1_init 4 = .ok (.aload_n 0, 1) := by decide +kernel
theorem dX1_init_5 : decode cX1_init 5 = .ok (.bipush 24, 2) := by decide +kernel
theorem dX1_init_7 : decode cX1_init 7 = .ok (.newarray .int, 2) := by decide +kernel
theorem dX1_init_9 : decode cX1_init 9 = .ok (.putfield 9, 3) := by decide +kernel
theorem dX1_init_12 : decode cX1_init 12 = .ok (.aload_n 0, 1) := by decide +kernel
theorem dX1_init_13 : decode cX1_init 13 = .ok (.bipush 25, 2) := by decide +kernel
theorem dX1_init_15 : decode cX1_init 15 = .ok (.newarray .int, 2) := by decide +kernel
theorem dX1_init_17 : decode cX1_init 17 = .ok (.putfield 15, 3) := by decide +kernel
theorem dX1_init_20 : decode cX1_init 20 = .ok (.aload_n 0, 1) := by decide +kernel
theorem dX1_init_21 : decode cX1_init 21 = .ok (.bipush 25, 2) := by decide +kernel
theorem dX1_init_23 : decode cX1_init 23 = .ok (.newarray .int, 2) := by decide +kernel
theorem dX1_init_25 : decode cX1_init 25 = .ok (.putfield 18, 3) := by decide +kernel
theorem dX1_init_28 : decode cX1_init 28 = .ok (.aload_n 0, 1) := by decide +kernel
theorem dX1_init_29 : decode cX1_init 29 = .ok (.bipush 25, 2) := by decide +kernel
theorem dX1_init_31 : decode cX1_init 31 = .ok (.newarray .int, 2) := by decide +kernel
theorem dX1_init_33 : decode cX1_init 33 = .ok (.putfield 21, 3) := by decide +kernel
theorem dX1_init_36 : decode cX1_init 36 = .ok (.aload_n 0, 1) := by decide +kernel
theorem dX1_init_37 : decode cX1_init 37 = .ok (.bipush 24, 2) := by decide +kernel
theorem dX1_init_39 : decode cX1_init 39 = .ok (.newarray .int, 2) := by decide +kernel
theorem dX1_init_41 : decode cX1_init 41 = .ok (.putfield 24, 3) := by decide +kernel
theorem dX1_init_44 : decode cX1_init 44 = .ok (.aload_n 0, 1) := by decide +kernel
theorem dX1_init_45 : decode cX1_init 45 = .ok (.aload_n 1, 1) := by decide +kernel
theorem dX1_init_46 : decode cX1_init 46 = .ok (.putfield 27, 3) := by decide +kernel
theorem dX1_init_49 : decode cX1_init 49 = .ok (.return_, 1) := by decide +kernel
theorem dX1_take_0 : decode cX1_take 0 = .ok (.aload_n 0, 1) := by decide +kernel
theorem dX1_take_1 : decode cX1_take 1 = .ok (.iload_n 3, 1) := by decide +kernel
theorem dX1_take_2 : decode cX1_take 2 = .ok (.putfield 31, 3) := by decide +kernel
theorem dX1_take_5 : decode cX1_take 5 = .ok (.iconst 0, 1) := by decide +kernel
theorem dX1_take_6 : decode cX1_take 6 = .ok (.istore 4, 2) := by decide +kernel
theorem dX1_take_8 : decode cX1_take 8 = .ok (.iload 4, 2) := by decide +kernel
theorem dX1_take_10 : decode cX1_take 10 = .ok (.iload_n 3, 1) := by decide +kernel
theorem dX1_take_11 : decode cX1_take 11 = .ok (.if_icmp .ge 24, 3) := by decide +kernel
theorem dX1_take_14 : decode cX1_take 14 = .ok (.aload_n 0, 1) := by decide +kernel
theorem dX1_take_15 : decode cX1_take 15 = .ok (.getfield 9, 3) := by decide +kernel
theorem dX1_take_18 : decode cX1_take 18 = .ok (.iload 4, 2) := by decide +kernel
theorem dX1_take_20 : decode cX1_take 20 = .ok (.aload_n 1, 1) := by decide +kernel
theorem dX1_take_21 : decode cX1_take 21 = .ok (.iload_n 2, 1) := by decide +kernel
theorem dX1_take_22 : decode cX1_take 22 = .ok (.iload 4, 2) := by decide +kernel
theorem dX1_take_24 : decode cX1_take 24 = .ok (.iadd, 1) := by decide +kernel
theorem dX1_take_25 : decode cX1_take 25 = .ok (.invokevirtual 35, 3) := by decide +kernel
theorem dX1_take_28 : decode cX1_take 28 = .ok (.iastore, 1) := by decide +kernel
theorem dX1_take_29 : decode cX1_take 29 = .ok (.iinc 4 1, 3) := by decide +kernel
theorem dX1_take_32 : decode cX1_take 32 = .ok (.goto (-24), 3) := by decide +kernel
theorem dX1_take_35 : decode cX1_take 35 = .ok (.return_, 1) := by decide +kernel
theorem dX1_find_0 : decode cX1_find 0 = .ok (.aload_n 0, 1) := by decide +kernel
theorem dX1_find_1 : decode cX1_find 1 = .ok (.invokevirtual 41, 3) := by decide +kernel
theorem dX1_find_4 : decode cX1_find 4 = .ok (.iconst 1, 1) := by decide +kernel
theorem dX1_find_5 : decode cX1_find 5 = .ok (.istore_n 2, 1) := by decide +kernel
theorem dX1_find_6 : decode cX1_find 6 = .ok (.iconst 1, 1) := by decide +kernel
theorem dX1_find_7 : decode cX1_find 7 = .ok (.istore_n 3, 1) := by decide +kernel
theorem dX1_find_8 : decode cX1_find 8 = .ok (.iconst 0, 1) := by decide +kernel
theorem dX1_find_9 : decode cX1_find 9 = .ok (.istore 4, 2) := by decide +kernel
theorem dX1_find_11 : decode cX1_find 11 = .ok (.iload 4, 2) := by decide +kernel
theorem dX1_find_13 : decode cX1_find 13 = .ok (.aload_n 0, 1) := by decide +kernel
theorem dX1_find_14 : decode cX1_find 14 = .ok (.getfield 31, 3) := by decide +kernel
theorem dX1_find_17 : decode cX1_find 17 = .ok (.if_icmp .ge 132, 3) := by decide +kernel
theorem dX1_find_20 : decode cX1_find 20 = .ok (.aload_n 0, 1) := by decide +kernel
theorem dX1_find_21 : decode cX1_find 21 = .ok (.getfield 44, 3) := by decide +kernel
theorem dX1_find_24 : decode cX1_find 24 = .ok (.iload_n 1, 1) := by decide +kernel
theorem dX1_find_25 : decode cX1_find 25 = .ok (.if_icmp .gt 124, 3) := by decide +kernel
theorem dX1_find_28 : decode cX1_find 28 = .ok (.aload_n 0, 1) := by decide +kernel
theorem dX1_find_29 : decode cX1_find 29 = .ok (.iload 4, 2) := by decide +kernel
theorem dX1_find_31 : decode cX1_find 31 = .ok (.invokevirtual 47, 3) := by decide +kernel
theorem dX1_find_34 : decode cX1_find 34 = .ok (.istore 5, 2) := by decide +kernel
theorem dX1_find_36 : decode cX1_find 36 = .ok (.iload 5, 2) := by decide +kernel
theorem dX1_find_38 : decode cX1_find 38 = .ok (.ifCond .eq 102, 3) := by decide +kernel
theorem dX1_find_41 : decode cX1_find 41 = .ok (.aload_n 0, 1) := by decide +kernel
theorem dX1_find_42 : decode cX1_find 42 = .ok (.getfield 44, 3) := by decide +kernel
theorem dX1_find_45 : decode cX1_find 45 = .ok (.iload 4, 2) := by decide +kernel
theorem dX1_find_47 : decode cX1_find 47 = .ok (.iconst 1, 1) := by decide +kernel
theorem dX1_find_48 : decode cX1_find 48 = .ok (.iadd, 1) := by decide +kernel
theorem dX1_find_49 : decode cX1_find 49 = .ok (.aload_n 0, 1) := by decide +kernel
theorem dX1_find_50 : decode cX1_find 50 = .ok (.getfield 44, 3) := by decide +kernel
theorem dX1_find_53 : decode cX1_find 53 = .ok (.isub, 1) := by decide +kernel
theorem dX1_find_54 : decode cX1_find 54 = .ok (.invokestatic 50, 3) := by decide +kernel
theorem dX1_find_57 : decode cX1_find 57 = .ok (.istore 6, 2) := by decide +kernel
theorem dX1_find_59 : decode cX1_find 59 = .ok (.iload 6, 2) := by decide +kernel
theorem dX1_find_61 : decode cX1_find 61 = .ok (.aload_n 0, 1) := by decide +kernel
theorem dX1_find_62 : decode cX1_find 62 = .ok (.getfield 44, 3) := by decide +kernel
theorem dX1_find_65 : decode cX1_find 65 = .ok (.if_icmp .le 7, 3) := by decide +kernel
theorem dX1_find_68 : decode cX1_find 68 = .ok (.iconst 1, 1) := by decide +kernel
theorem dX1_find_69 : decode cX1_find 69 = .ok (.goto 4, 3) := by decide +kernel
theorem dX1_find_72 : decode cX1_find 72 = .ok (.iconst 0, 1) := by decide +kernel
theorem dX1_find_73 : decode cX1_find 73 = .ok (.istore 7, 2) := by decide +kernel
theorem dX1_find_75 : decode cX1_find 75 = .ok (.iload 7, 2) := by decide +kernel
theorem dX1_find_77 : decode cX1_find 77 = .ok (.ifCond .eq 18, 3) := by decide +kernel
theorem dX1_find_80 : decode cX1_find 80 = .ok (.aload_n 0, 1) := by decide +kernel
theorem dX1_find_81 : decode cX1_find 81 = .ok (.getfield 15, 3) := by decide +kernel
theorem dX1_find_84 : decode cX1_find 84 = .ok (.iconst 0, 1) := by decide +kernel
theorem dX1_find_85 : decode cX1_find 85 = .ok (.aload_n 0, 1) := by decide +kernel
theorem dX1_find_86 : decode cX1_find 86 = .ok (.getfield 21, 3) := by decide +kernel
theorem dX1_find_89 : decode cX1_find 89 = .ok (.iconst 0, 1) := by decide +kernel
theorem dX1_find_90 : decode cX1_find 90 = .ok (.bipush 25, 2) := by decide +kernel
theorem dX1_find_92 : decode cX1_find 92 = .ok (.invokestatic 56, 3) := by decide +kernel
theorem dX1_find_95 : decode cX1_find 95 = .ok (.aload_n 0, 1) := by decide +kernel
theorem dX1_find_96 : decode cX1_find 96 = .ok (.aload_n 0, 1) := by decide +kernel
theorem dX1_find_97 : decode cX1_find 97 = .ok (.getfield 27, 3) := by decide +kernel
theorem dX1_find_100 : decode cX1_find 100 = .ok (.iload 5, 2) := by decide +kernel
theorem dX1_find_102 : decode cX1_find 102 = .ok (.aload_n 0, 1) := by decide +kernel
theorem dX1_find_103 : decode cX1_find 103 = .ok (.getfield 27, 3) := by decide +kernel
theorem dX1_find_106 : decode cX1_find 106 = .ok (.iload_n 3, 1) := by decide +kernel
theorem dX1_find_107 : decode cX1_find 107 = .ok (.invokevirtual 62, 3) := by decide +kernel
theorem dX1_find_110 : decode cX1_find 110 = .ok (.imul, 1) := by decide +kernel
theorem dX1_find_111 : decode cX1_find 111 = .ok (.invokevirtual 67, 3) := by decide +kernel
theorem dX1_find_114 : decode cX1_find 114 = .ok (.iload_n 2, 1) := by decide +kernel
theorem dX1_find_115 : decode cX1_find 115 = .ok (.iload 6, 2) := by decide +kernel
theorem dX1_find_117 : decode cX1_find 117 = .ok (.invokevirtual 70, 3) := by decide +kernel
theorem dX1_find_120 : decode cX1_find 120 = .ok (.iload 7, 2) := by decide +kernel
theorem dX1_find_122 : decode cX1_find 122 = .ok (.ifCond .eq 18, 3) := by decide +kernel
theorem dX1_find_125 : decode cX1_find 125 = .ok (.aload_n 0, 1) := by decide +kernel
theorem dX1_find_126 : decode cX1_find 126 = .ok (.invokevirtual 74, 3) := by decide +kernel
theorem dX1_find_129 : decode cX1_find 129 = .ok (.aload_n 0, 1) := by decide +kernel
theorem dX1_find_130 : decode cX1_find 130 = .ok (.iload 6, 2) := by decide +kernel
theorem dX1_find_132 : decode cX1_find 132 = .ok (.putfield 44, 3) := by decide +kernel
theorem dX1_find_135 : decode cX1_find 135 = .ok (.iload 5, 2) := by decide +kernel
theorem dX1_find_137 : decode cX1_find 137 = .ok (.istore_n 3, 1) := by decide +kernel
theorem dX1_find_138 : decode cX1_find 138 = .ok (.iconst 0, 1) := by decide +kernel
theorem dX1_find_139 : decode cX1_find 139 = .ok (.istore_n 2, 1) := by decide +kernel
theorem dX1_find_140 : decode cX1_find 140 = .ok (.iinc 2 1, 3) := by decide +kernel
theorem dX1_find_143 : decode cX1_find 143 = .ok (.iinc 4 1, 3) := by decide +kernel
theorem dX1_find_146 : decode cX1_find 146 = .ok (.goto (-135), 3) := by decide +kernel
theorem dX1_find_149 : decode cX1_find 149 = .ok (.return_, 1) := by decide +kernel
theorem dX1_start_0 : decode cX1_start 0 = .ok (.aload_n 0, 1) := by decide +kernel
theorem dX1_start_1 : decode cX1_start 1 = .ok (.iconst 0, 1) := by decide +kernel
theorem dX1_start_2 : decode cX1_start 2 = .ok (.putfield 44, 3) := by decide +kernel
theorem dX1_start_5 : decode cX1_start 5 = .ok (.iconst 0, 1) := by decide +kernel
theorem dX1_start_6 : decode cX1_start 6 = .ok (.istore_n 1, 1) := by decide +kernel
theorem dX1_start_7 : decode cX1_start 7 = .ok (.iload_n 1, 1) := by decide +kernel
theorem dX1_start_8 : decode cX1_start 8 = .ok (.bipush 24, 2) := by decide +kernel
theorem dX1_start_10 : decode cX1_start 10 = .ok (.if_icmp .gt 23, 3) := by decide +kernel
theorem dX1_start_13 : decode cX1_start 13 = .ok (.aload_n 0, 1) := by decide +kernel
theorem dX1_start_14 : decode cX1_start 14 = .ok (.getfield 15, 3) := by decide +kernel
theorem dX1_start_17 : decode cX1_start 17 = .ok (.iload_n 1, 1) := by decide +kernel
theorem dX1_start_18 : decode cX1_start 18 = .ok (.iconst 0, 1) := by decide +kernel
theorem dX1_start_19 : decode cX1_start 19 = .ok (.iastore, 1) := by decide +kernel
theorem dX1_start_20 : decode cX1_start 20 = .ok (.aload_n 0, 1) := by decide +kernel
theorem dX1_start_21 : decode cX1_start 21 = .ok (.getfield 18, 3) := by decide +kernel
theorem dX1_start_24 : decode cX1_start 24 = .ok (.iload_n 1, 1) := by decide +kernel
theorem dX1_start_25 : decode cX1_start 25 = .ok (.iconst 0, 1) := by decide +kernel
theorem dX1_start_26 : decode cX1_start 26 = .ok (.iastore, 1) := by decide +kernel
theorem dX1_start_27 : decode cX1_start 27 = .ok (.iinc 1 1, 3) := by decide +kernel
theorem dX1_start_30 : decode cX1_start 30 = .ok (.goto (-23), 3) := by decide +kernel
theorem dX1_start_33 : decode cX1_start 33 = .ok (.aload_n 0, 1) := by decide +kernel
theorem dX1_start_34 : decode cX1_start 34 = .ok (.getfield 15, 3) := by decide +kernel
theorem dX1_start_37 : decode cX1_start 37 = .ok (.iconst 0, 1) := by decide +kernel
theorem dX1_start_38 : decode cX1_start 38 = .ok (.iconst 1, 1) := by decide +kernel
theorem dX1_start_39 : decode cX1_start 39 = .ok (.iastore, 1) := by decide +kernel
theorem dX1_start_40 : decode cX1_start 40 = .ok (.aload_n 0, 1) := by decide +kernel
theorem dX1_start_41 : decode cX1_start 41 = .ok (.getfield 18, 3) := by decide +kernel
theorem dX1_start_44 : decode cX1_start 44 = .ok (.iconst 0, 1) := by decide +kernel
theorem dX1_start_45 : decode cX1_start 45 = .ok (.iconst 1, 1) := by decide +kernel
theorem dX1_start_46 : decode cX1_start 46 = .ok (.iastore, 1) := by decide +kernel
theorem dX1_start_47 : decode cX1_start 47 = .ok (.return_, 1) := by decide +kernel
theorem dX1_missAt_0 : decode cX1_missAt 0 = .ok (.iconst 0, 1) := by decide +kernel
theorem dX1_missAt_1 : decode cX1_missAt 1 = .ok (.istore_n 2, 1) := by decide +kernel
theorem dX1_missAt_2 : decode cX1_missAt 2 = .ok (.iconst 0, 1) := by decide +kernel
theorem dX1_missAt_3 : decode cX1_missAt 3 = .ok (.istore_n 3, 1) := by decide +kernel
theorem dX1_missAt_4 : decode cX1_missAt 4 = .ok (.iload_n 3, 1) := by decide +kernel
theorem dX1_missAt_5 : decode cX1_missAt 5 = .ok (.aload_n 0, 1) := by decide +kernel
theorem dX1_missAt_6 : decode cX1_missAt 6 = .ok (.getfield 44, 3) := by decide +kernel
theorem dX1_missAt_9 : decode cX1_missAt 9 = .ok (.if_icmp .gt 32, 3) := by decide +kernel
theorem dX1_missAt_12 : decode cX1_missAt 12 = .ok (.iload_n 3, 1) := by decide +kernel
theorem dX1_missAt_13 : decode cX1_missAt 13 = .ok (.iload_n 1, 1) := by decide +kernel
theorem dX1_missAt_14 : decode cX1_missAt 14 = .ok (.if_icmp .gt 27, 3) := by decide +kernel
theorem dX1_missAt_17 : decode cX1_missAt 17 = .ok (.iload_n 2, 1) := by decide +kernel
theorem dX1_missAt_18 : decode cX1_missAt 18 = .ok (.aload_n 0, 1) := by decide +kernel
theorem dX1_missAt_19 : decode cX1_missAt 19 = .ok (.getfield 15, 3) := by decide +kernel
theorem dX1_missAt_22 : decode cX1_missAt 22 = .ok (.iload_n 3, 1) := by decide +kernel
theorem dX1_missAt_23 : decode cX1_missAt 23 = .ok (.iaload, 1) := by decide +kernel
theorem dX1_missAt_24 : decode cX1_missAt 24 = .ok (.aload_n 0, 1) := by decide +kernel
theorem dX1_missAt_25 : decode cX1_missAt 25 = .ok (.getfield 9, 3) := by decide +kernel
theorem dX1_missAt_28 : decode cX1_missAt 28 = .ok (.iload_n 1, 1) := by decide +kernel
theorem dX1_missAt_29 : decode cX1_missAt 29 = .ok (.iload_n 3, 1) := by decide +kernel
theorem dX1_missAt_30 : decode cX1_missAt 30 = .ok (.isub, 1) := by decide +kernel
theorem dX1_missAt_31 : decode cX1_missAt 31 = .ok (.iaload, 1) := by decide +kernel
theorem dX1_missAt_32 : decode cX1_missAt 32 = .ok (.imul, 1) := by decide +kernel
theorem dX1_missAt_33 : decode cX1_missAt 33 = .ok (.iadd, 1) := by decide +kernel
theorem dX1_missAt_34 : decode cX1_missAt 34 = .ok (.istore_n 2, 1) := by decide +kernel
theorem dX1_missAt_35 : decode cX1_missAt 35 = .ok (.iinc 3 1, 3) := by decide +kernel
theorem dX1_missAt_38 : decode cX1_missAt 38 = .ok (.goto (-34), 3) := by decide +kernel
theorem dX1_missAt_41 : decode cX1_missAt 41 = .ok (.aload_n 0, 1) := by decide +kernel
theorem dX1_missAt_42 : decode cX1_missAt 42 = .ok (.getfield 27, 3) := by decide +kernel
theorem dX1_missAt_45 : decode cX1_missAt 45 = .ok (.iload_n 2, 1) := by decide +kernel
theorem dX1_missAt_46 : decode cX1_missAt 46 = .ok (.invokevirtual 67, 3) := by decide +kernel
theorem dX1_missAt_49 : decode cX1_missAt 49 = .ok (.ireturn, 1) := by decide +kernel
theorem dX1_correct_0 : decode cX1_correct 0 = .ok (.aload_n 0, 1) := by decide +kernel
theorem dX1_correct_1 : decode cX1_correct 1 = .ok (.getfield 27, 3) := by decide +kernel
theorem dX1_correct_4 : decode cX1_correct 4 = .ok (.getfield 77, 3) := by decide +kernel
theorem dX1_correct_7 : decode cX1_correct 7 = .ok (.iload_n 1, 1) := by decide +kernel
theorem dX1_correct_8 : decode cX1_correct 8 = .ok (.isub, 1) := by decide +kernel
theorem dX1_correct_9 : decode cX1_correct 9 = .ok (.istore 4, 2) := by decide +kernel
theorem dX1_correct_11 : decode cX1_correct 11 = .ok (.iload_n 2, 1) := by decide +kernel
theorem dX1_correct_12 : decode cX1_correct 12 = .ok (.istore 5, 2) := by decide +kernel
theorem dX1_correct_14 : decode cX1_correct 14 = .ok (.iload 5, 2) := by decide +kernel
theorem dX1_correct_16 : decode cX1_correct 16 = .ok (.iload_n 3, 1) := by decide +kernel
theorem dX1_correct_17 : decode cX1_correct 17 = .ok (.if_icmp .gt 50, 3) := by decide +kernel
theorem dX1_correct_20 : decode cX1_correct 20 = .ok (.iload 5, 2) := by decide +kernel
theorem dX1_correct_22 : decode cX1_correct 22 = .ok (.bipush 24, 2) := by decide +kernel
theorem dX1_correct_24 : decode cX1_correct 24 = .ok (.if_icmp .gt 43, 3) := by decide +kernel
theorem dX1_correct_27 : decode cX1_correct 27 = .ok (.aload_n 0, 1) := by decide +kernel
theorem dX1_correct_28 : decode cX1_correct 28 = .ok (.getfield 15, 3) := by decide +kernel
theorem dX1_correct_31 : decode cX1_correct 31 = .ok (.iload 5, 2) := by decide +kernel
theorem dX1_correct_33 : decode cX1_correct 33 = .ok (.aload_n 0, 1) := by decide +kernel
theorem dX1_correct_34 : decode cX1_correct 34 = .ok (.getfield 27, 3) := by decide +kernel
theorem dX1_correct_37 : decode cX1_correct 37 = .ok (.aload_n 0, 1) := by decide +kernel
theorem dX1_correct_38 : decode cX1_correct 38 = .ok (.getfield 15, 3) := by decide +kernel
theorem dX1_correct_41 : decode cX1_correct 41 = .ok (.iload 5, 2) := by decide +kernel
theorem dX1_correct_43 : decode cX1_correct 43 = .ok (.iaload, 1) := by decide +kernel
theorem dX1_correct_44 : decode cX1_correct 44 = .ok (.iload 4, 2) := by decide +kernel
theorem dX1_correct_46 : decode cX1_correct 46 = .ok (.aload_n 0, 1) := by decide +kernel
theorem dX1_correct_47 : decode cX1_correct 47 = .ok (.getfield 18, 3) := by decide +kernel
theorem dX1_correct_50 : decode cX1_correct 50 = .ok (.iload 5, 2) := by decide +kernel
theorem dX1_correct_52 : decode cX1_correct 52 = .ok (.iload_n 2, 1) := by decide +kernel
theorem dX1_correct_53 : decode cX1_correct 53 = .ok (.isub, 1) := by decide +kernel
theorem dX1_correct_54 : decode cX1_correct 54 = .ok (.iaload, 1) := by decide +kernel
theorem dX1_correct_55 : decode cX1_correct 55 = .ok (.imul, 1) := by decide +kernel
theorem dX1_correct_56 : decode cX1_correct 56 = .ok (.iadd, 1) := by decide +kernel
theorem dX1_correct_57 : decode cX1_correct 57 = .ok (.invokevirtual 67, 3) := by decide +kernel
theorem dX1_correct_60 : decode cX1_correct 60 = .ok (.iastore, 1) := by decide +kernel
theorem dX1_correct_61 : decode cX1_correct 61 = .ok (.iinc 5 1, 3) := by decide +kernel
theorem dX1_correct_64 : decode cX1_correct 64 = .ok (.goto (-50), 3) := by decide +kernel
theorem dX1_correct_67 : decode cX1_correct 67 = .ok (.return_, 1) := by decide +kernel
theorem dX1_keepSpare_0 : decode cX1_keepSpare 0 = .ok (.aload_n 0, 1) := by decide +kernel
theorem dX1_keepSpare_1 : decode cX1_keepSpare 1 = .ok (.getfield 21, 3) := by decide +kernel
theorem dX1_keepSpare_4 : decode cX1_keepSpare 4 = .ok (.astore_n 1, 1) := by decide +kernel
theorem dX1_keepSpare_5 : decode cX1_keepSpare 5 = .ok (.aload_n 0, 1) := by decide +kernel
theorem dX1_keepSpare_6 : decode cX1_keepSpare 6 = .ok (.aload_n 0, 1) := by decide +kernel
theorem dX1_keepSpare_7 : decode cX1_keepSpare 7 = .ok (.getfield 18, 3) := by decide +kernel
theorem dX1_keepSpare_10 : decode cX1_keepSpare 10 = .ok (.putfield 21, 3) := by decide +kernel
theorem dX1_keepSpare_13 : decode cX1_keepSpare 13 = .ok (.aload_n 0, 1) := by decide +kernel
theorem dX1_keepSpare_14 : decode cX1_keepSpare 14 = .ok (.aload_n 1, 1) := by decide +kernel
theorem dX1_keepSpare_15 : decode cX1_keepSpare 15 = .ok (.putfield 18, 3) := by decide +kernel
theorem dX1_keepSpare_18 : decode cX1_keepSpare 18 = .ok (.return_, 1) := by decide +kernel
theorem dX1_isOne_0 : decode cX1_isOne 0 = .ok (.aload_n 0, 1) := by decide +kernel
theorem dX1_isOne_1 : decode cX1_isOne 1 = .ok (.getfield 31, 3) := by decide +kernel
theorem dX1_isOne_4 : decode cX1_isOne 4 = .ok (.iconst 2, 1) := by decide +kernel
theorem dX1_isOne_5 : decode cX1_isOne 5 = .ok (.aload_n 0, 1) := by decide +kernel
theorem dX1_isOne_6 : decode cX1_isOne 6 = .ok (.getfield 44, 3) := by decide +kernel
theorem dX1_isOne_9 : decode cX1_isOne 9 = .ok (.imul, 1) := by decide +kernel
theorem dX1_isOne_10 : decode cX1_isOne 10 = .ok (.if_icmp .lt 7, 3) := by decide +kernel
theorem dX1_isOne_13 : decode cX1_isOne 13 = .ok (.iconst 1, 1) := by decide +kernel
theorem dX1_isOne_14 : decode cX1_isOne 14 = .ok (.goto 4, 3) := by decide +kernel
theorem dX1_isOne_17 : decode cX1_isOne 17 = .ok (.iconst 0, 1) := by decide +kernel
theorem dX1_isOne_18 : decode cX1_isOne 18 = .ok (.ireturn, 1) := by decide +kernel
theorem dX1_coefficient_0 : decode cX1_coefficient 0 = .ok (.aload_n 0, 1) := by decide +kernel
theorem dX1_coefficient_1 : decode cX1_coefficient 1 = .ok (.getfield 27, 3) := by decide +kernel
theorem dX1_coefficient_4 : decode cX1_coefficient 4 = .ok (.aload_n 0, 1) := by decide +kernel
theorem dX1_coefficient_5 : decode cX1_coefficient 5 = .ok (.getfield 27, 3) := by decide +kernel
theorem dX1_coefficient_8 : decode cX1_coefficient 8 = .ok (.getfield 77, 3) := by decide +kernel
theorem dX1_coefficient_11 : decode cX1_coefficient 11 = .ok (.aload_n 0, 1) := by decide +kernel
theorem dX1_coefficient_12 : decode cX1_coefficient 12 = .ok (.getfield 15, 3) := by decide +kernel
theorem dX1_coefficient_15 : decode cX1_coefficient 15 = .ok (.iload_n 1, 1) := by decide +kernel
theorem dX1_coefficient_16 : decode cX1_coefficient 16 = .ok (.iaload, 1) := by decide +kernel
theorem dX1_coefficient_17 : decode cX1_coefficient 17 = .ok (.isub, 1) := by decide +kernel
theorem dX1_coefficient_18 : decode cX1_coefficient 18 = .ok (.invokevirtual 67, 3) := by decide +kernel
theorem dX1_coefficient_21 : decode cX1_coefficient 21 = .ok (.ireturn, 1) := by decide +kernel
theorem dX1_hasRoot_0 : decode cX1_hasRoot 0 = .ok (.iconst 0, 1) := by decide +kernel
theorem dX1_hasRoot_1 : decode cX1_hasRoot 1 = .ok (.istore_n 2, 1) := by decide +kernel
theorem dX1_hasRoot_2 : decode cX1_hasRoot 2 = .ok (.iconst 0, 1) := by decide +kernel
theorem dX1_hasRoot_3 : decode cX1_hasRoot 3 = .ok (.istore_n 3, 1) := by decide +kernel
theorem dX1_hasRoot_4 : decode cX1_hasRoot 4 = .ok (.iload_n 3, 1) := by decide +kernel
theorem dX1_hasRoot_5 : decode cX1_hasRoot 5 = .ok (.aload_n 0, 1) := by decide +kernel
theorem dX1_hasRoot_6 : decode cX1_hasRoot 6 = .ok (.getfield 44, 3) := by decide +kernel
theorem dX1_hasRoot_9 : decode cX1_hasRoot 9 = .ok (.if_icmp .gt 27, 3) := by decide +kernel
theorem dX1_hasRoot_12 : decode cX1_hasRoot 12 = .ok (.aload_n 0, 1) := by decide +kernel
theorem dX1_hasRoot_13 : decode cX1_hasRoot 13 = .ok (.getfield 27, 3) := by decide +kernel
theorem dX1_hasRoot_16 : decode cX1_hasRoot 16 = .ok (.iload_n 2, 1) := by decide +kernel
theorem dX1_hasRoot_17 : decode cX1_hasRoot 17 = .ok (.iload_n 1, 1) := by decide +kernel
theorem dX1_hasRoot_18 : decode cX1_hasRoot 18 = .ok (.imul, 1) := by decide +kernel
theorem dX1_hasRoot_19 : decode cX1_hasRoot 19 = .ok (.aload_n 0, 1) := by decide +kernel
theorem dX1_hasRoot_20 : decode cX1_hasRoot 20 = .ok (.getfield 15, 3) := by decide +kernel
theorem dX1_hasRoot_23 : decode cX1_hasRoot 23 = .ok (.iload_n 3, 1) := by decide +kernel
theorem dX1_hasRoot_24 : decode cX1_hasRoot 24 = .ok (.iaload, 1) := by decide +kernel
theorem dX1_hasRoot_25 : decode cX1_hasRoot 25 = .ok (.iadd, 1) := by decide +kernel
theorem dX1_hasRoot_26 : decode cX1_hasRoot 26 = .ok (.invokevirtual 67, 3) := by decide +kernel
theorem dX1_hasRoot_29 : decode cX1_hasRoot 29 = .ok (.istore_n 2, 1) := by decide +kernel
theorem dX1_hasRoot_30 : decode cX1_hasRoot 30 = .ok (.iinc 3 1, 3) := by decide +kernel
theorem dX1_hasRoot_33 : decode cX1_hasRoot 33 = .ok (.goto (-29), 3) := by decide +kernel
theorem dX1_hasRoot_36 : decode cX1_hasRoot 36 = .ok (.iload_n 2, 1) := by decide +kernel
theorem dX1_hasRoot_37 : decode cX1_hasRoot 37 = .ok (.ifCond .ne 7, 3) := by decide +kernel
theorem dX1_hasRoot_40 : decode cX1_hasRoot 40 = .ok (.iconst 1, 1) := by decide +kernel
theorem dX1_hasRoot_41 : decode cX1_hasRoot 41 = .ok (.goto 4, 3) := by decide +kernel
theorem dX1_hasRoot_44 : decode cX1_hasRoot 44 = .ok (.iconst 0, 1) := by decide +kernel
theorem dX1_hasRoot_45 : decode cX1_hasRoot 45 = .ok (.ireturn, 1) := by decide +kernel
theorem dX1_findSlants_0 : decode cX1_findSlants 0 = .ok (.aload_n 0, 1) := by decide +kernel
theorem dX1_findSlants_1 : decode cX1_findSlants 1 = .ok (.iconst 0, 1) := by decide +kernel
theorem dX1_findSlants_2 : decode cX1_findSlants 2 = .ok (.putfield 80, 3) := by decide +kernel
theorem dX1_findSlants_5 : decode cX1_findSlants 5 = .ok (.iconst 1, 1) := by decide +kernel
theorem dX1_findSlants_6 : decode cX1_findSlants 6 = .ok (.istore_n 1, 1) := by decide +kernel
theorem dX1_findSlants_7 : decode cX1_findSlants 7 = .ok (.iload_n 1, 1) := by decide +kernel
theorem dX1_findSlants_8 : decode cX1_findSlants 8 = .ok (.aload_n 0, 1) := by decide +kernel
theorem dX1_findSlants_9 : decode cX1_findSlants 9 = .ok (.getfield 27, 3) := by decide +kernel
theorem dX1_findSlants_12 : decode cX1_findSlants 12 = .ok (.getfield 77, 3) := by decide +kernel
theorem dX1_findSlants_15 : decode cX1_findSlants 15 = .ok (.if_icmp .ge 46, 3) := by decide +kernel
theorem dX1_findSlants_18 : decode cX1_findSlants 18 = .ok (.aload_n 0, 1) := by decide +kernel
theorem dX1_findSlants_19 : decode cX1_findSlants 19 = .ok (.getfield 80, 3) := by decide +kernel
theorem dX1_findSlants_22 : decode cX1_findSlants 22 = .ok (.bipush 24, 2) := by decide +kernel
theorem dX1_findSlants_24 : decode cX1_findSlants 24 = .ok (.if_icmp .ge 37, 3) := by decide +kernel
theorem dX1_findSlants_27 : decode cX1_findSlants 27 = .ok (.aload_n 0, 1) := by decide +kernel
theorem dX1_findSlants_28 : decode cX1_findSlants 28 = .ok (.iload_n 1, 1) := by decide +kernel
theorem dX1_findSlants_29 : decode cX1_findSlants 29 = .ok (.invokevirtual 83, 3) := by decide +kernel
theorem dX1_findSlants_32 : decode cX1_findSlants 32 = .ok (.ifCond .eq 23, 3) := by decide +kernel
theorem dX1_findSlants_35 : decode cX1_findSlants 35 = .ok (.aload_n 0, 1) := by decide +kernel
theorem dX1_findSlants_36 : decode cX1_findSlants 36 = .ok (.getfield 24, 3) := by decide +kernel
theorem dX1_findSlants_39 : decode cX1_findSlants 39 = .ok (.aload_n 0, 1) := by decide +kernel
theorem dX1_findSlants_40 : decode cX1_findSlants 40 = .ok (.getfield 80, 3) := by decide +kernel
theorem dX1_findSlants_43 : decode cX1_findSlants 43 = .ok (.iload_n 1, 1) := by decide +kernel
theorem dX1_findSlants_44 : decode cX1_findSlants 44 = .ok (.iastore, 1) := by decide +kernel
theorem dX1_findSlants_45 : decode cX1_findSlants 45 = .ok (.aload_n 0, 1) := by decide +kernel
theorem dX1_findSlants_46 : decode cX1_findSlants 46 = .ok (.dup, 1) := by decide +kernel
theorem dX1_findSlants_47 : decode cX1_findSlants 47 = .ok (.getfield 80, 3) := by decide +kernel
theorem dX1_findSlants_50 : decode cX1_findSlants 50 = .ok (.iconst 1, 1) := by decide +kernel
theorem dX1_findSlants_51 : decode cX1_findSlants 51 = .ok (.iadd, 1) := by decide +kernel
theorem dX1_findSlants_52 : decode cX1_findSlants 52 = .ok (.putfield 80, 3) := by decide +kernel
theorem dX1_findSlants_55 : decode cX1_findSlants 55 = .ok (.iinc 1 1, 3) := by decide +kernel
theorem dX1_findSlants_58 : decode cX1_findSlants 58 = .ok (.goto (-51), 3) := by decide +kernel
theorem dX1_findSlants_61 : decode cX1_findSlants 61 = .ok (.return_, 1) := by decide +kernel
theorem dX1_isFull_0 : decode cX1_isFull 0 = .ok (.aload_n 0, 1) := by decide +kernel
theorem dX1_isFull_1 : decode cX1_isFull 1 = .ok (.getfield 80, 3) := by decide +kernel
theorem dX1_isFull_4 : decode cX1_isFull 4 = .ok (.aload_n 0, 1) := by decide +kernel
theorem dX1_isFull_5 : decode cX1_isFull 5 = .ok (.getfield 44, 3) := by decide +kernel
theorem dX1_isFull_8 : decode cX1_isFull 8 = .ok (.if_icmp .ne 7, 3) := by decide +kernel
theorem dX1_isFull_11 : decode cX1_isFull 11 = .ok (.iconst 1, 1) := by decide +kernel
theorem dX1_isFull_12 : decode cX1_isFull 12 = .ok (.goto 4, 3) := by decide +kernel
theorem dX1_isFull_15 : decode cX1_isFull 15 = .ok (.iconst 0, 1) := by decide +kernel
theorem dX1_isFull_16 : decode cX1_isFull 16 = .ok (.ireturn, 1) := by decide +kernel
theorem dX1_slantAt_0 : decode cX1_slantAt 0 = .ok (.iload_n 1, 1) := by decide +kernel
theorem dX1_slantAt_1 : decode cX1_slantAt 1 = .ok (.ifCond .lt 20, 3) := by decide +kernel
theorem dX1_slantAt_4 : decode cX1_slantAt 4 = .ok (.iload_n 1, 1) := by decide +kernel
theorem dX1_slantAt_5 : decode cX1_slantAt 5 = .ok (.aload_n 0, 1) := by decide +kernel
theorem dX1_slantAt_6 : decode cX1_slantAt 6 = .ok (.getfield 80, 3) := by decide +kernel
theorem dX1_slantAt_9 : decode cX1_slantAt 9 = .ok (.if_icmp .ge 12, 3) := by decide +kernel
theorem dX1_slantAt_12 : decode cX1_slantAt 12 = .ok (.aload_n 0, 1) := by decide +kernel
theorem dX1_slantAt_13 : decode cX1_slantAt 13 = .ok (.getfield 24, 3) := by decide +kernel
theorem dX1_slantAt_16 : decode cX1_slantAt 16 = .ok (.iload_n 1, 1) := by decide +kernel
theorem dX1_slantAt_17 : decode cX1_slantAt 17 = .ok (.iaload, 1) := by decide +kernel
theorem dX1_slantAt_18 : decode cX1_slantAt 18 = .ok (.goto 4, 3) := by decide +kernel
theorem dX1_slantAt_21 : decode cX1_slantAt 21 = .ok (.iconst (-1), 1) := by decide +kernel
theorem dX1_slantAt_22 : decode cX1_slantAt 22 = .ok (.ireturn, 1) := by decide +kernel
theorem dX1_strengthOf_0 : decode cX1_strengthOf 0 = .ok (.iconst 1, 1) := by decide +kernel
theorem dX1_strengthOf_1 : decode cX1_strengthOf 1 = .ok (.istore_n 3, 1) := by decide +kernel
theorem dX1_strengthOf_2 : decode cX1_strengthOf 2 = .ok (.iconst 0, 1) := by decide +kernel
theorem dX1_strengthOf_3 : decode cX1_strengthOf 3 = .ok (.istore 4, 2) := by decide +kernel
theorem dX1_strengthOf_5 : decode cX1_strengthOf 5 = .ok (.iconst 0, 1) := by decide +kernel
theorem dX1_strengthOf_6 : decode cX1_strengthOf 6 = .ok (.istore 5, 2) := by decide +kernel
theorem dX1_strengthOf_8 : decode cX1_strengthOf 8 = .ok (.aload_n 0, 1) := by decide +kernel
theorem dX1_strengthOf_9 : decode cX1_strengthOf 9 = .ok (.getfield 44, 3) := by decide +kernel
theorem dX1_strengthOf_12 : decode cX1_strengthOf 12 = .ok (.iconst 1, 1) := by decide +kernel
theorem dX1_strengthOf_13 : decode cX1_strengthOf 13 = .ok (.isub, 1) := by decide +kernel
theorem dX1_strengthOf_14 : decode cX1_strengthOf 14 = .ok (.istore 6, 2) := by decide +kernel
theorem dX1_strengthOf_16 : decode cX1_strengthOf 16 = .ok (.iload 6, 2) := by decide +kernel
theorem dX1_strengthOf_18 : decode cX1_strengthOf 18 = .ok (.ifCond .lt 69, 3) := by decide +kernel
theorem dX1_strengthOf_21 : decode cX1_strengthOf 21 = .ok (.aload_n 0, 1) := by decide +kernel
theorem dX1_strengthOf_22 : decode cX1_strengthOf 22 = .ok (.getfield 27, 3) := by decide +kernel
theorem dX1_strengthOf_25 : decode cX1_strengthOf 25 = .ok (.iload 4, 2) := by decide +kernel
theorem dX1_strengthOf_27 : decode cX1_strengthOf 27 = .ok (.iload_n 3, 1) := by decide +kernel
theorem dX1_strengthOf_28 : decode cX1_strengthOf 28 = .ok (.aload_n 0, 1) := by decide +kernel
theorem dX1_strengthOf_29 : decode cX1_strengthOf 29 = .ok (.getfield 9, 3) := by decide +kernel
theorem dX1_strengthOf_32 : decode cX1_strengthOf 32 = .ok (.iload 6, 2) := by decide +kernel
theorem dX1_strengthOf_34 : decode cX1_strengthOf 34 = .ok (.iaload, 1) := by decide +kernel
theorem dX1_strengthOf_35 : decode cX1_strengthOf 35 = .ok (.imul, 1) := by decide +kernel
theorem dX1_strengthOf_36 : decode cX1_strengthOf 36 = .ok (.iadd, 1) := by decide +kernel
theorem dX1_strengthOf_37 : decode cX1_strengthOf 37 = .ok (.invokevirtual 67, 3) := by decide +kernel
theorem dX1_strengthOf_40 : decode cX1_strengthOf 40 = .ok (.istore 4, 2) := by decide +kernel
theorem dX1_strengthOf_42 : decode cX1_strengthOf 42 = .ok (.aload_n 0, 1) := by decide +kernel
theorem dX1_strengthOf_43 : decode cX1_strengthOf 43 = .ok (.getfield 27, 3) := by decide +kernel
theorem dX1_strengthOf_46 : decode cX1_strengthOf 46 = .ok (.iload 5, 2) := by decide +kernel
theorem dX1_strengthOf_48 : decode cX1_strengthOf 48 = .ok (.iload_n 1, 1) := by decide +kernel
theorem dX1_strengthOf_49 : decode cX1_strengthOf 49 = .ok (.imul, 1) := by decide +kernel
theorem dX1_strengthOf_50 : decode cX1_strengthOf 50 = .ok (.iload_n 3, 1) := by decide +kernel
theorem dX1_strengthOf_51 : decode cX1_strengthOf 51 = .ok (.iadd, 1) := by decide +kernel
theorem dX1_strengthOf_52 : decode cX1_strengthOf 52 = .ok (.invokevirtual 67, 3) := by decide +kernel
theorem dX1_strengthOf_55 : decode cX1_strengthOf 55 = .ok (.istore 5, 2) := by decide +kernel
theorem dX1_strengthOf_57 : decode cX1_strengthOf 57 = .ok (.aload_n 0, 1) := by decide +kernel
theorem dX1_strengthOf_58 : decode cX1_strengthOf 58 = .ok (.getfield 27, 3) := by decide +kernel
theorem dX1_strengthOf_61 : decode cX1_strengthOf 61 = .ok (.iload_n 3, 1) := by decide +kernel
theorem dX1_strengthOf_62 : decode cX1_strengthOf 62 = .ok (.iload_n 1, 1) := by decide +kernel
theorem dX1_strengthOf_63 : decode cX1_strengthOf 63 = .ok (.imul, 1) := by decide +kernel
theorem dX1_strengthOf_64 : decode cX1_strengthOf 64 = .ok (.aload_n 0, 1) := by decide +kernel
theorem dX1_strengthOf_65 : decode cX1_strengthOf 65 = .ok (.getfield 15, 3) := by decide +kernel
theorem dX1_strengthOf_68 : decode cX1_strengthOf 68 = .ok (.aload_n 0, 1) := by decide +kernel
theorem dX1_strengthOf_69 : decode cX1_strengthOf 69 = .ok (.getfield 44, 3) := by decide +kernel
theorem dX1_strengthOf_72 : decode cX1_strengthOf 72 = .ok (.iload 6, 2) := by decide +kernel
theorem dX1_strengthOf_74 : decode cX1_strengthOf 74 = .ok (.isub, 1) := by decide +kernel
theorem dX1_strengthOf_75 : decode cX1_strengthOf 75 = .ok (.iaload, 1) := by decide +kernel
theorem dX1_strengthOf_76 : decode cX1_strengthOf 76 = .ok (.iadd, 1) := by decide +kernel
theorem dX1_strengthOf_77 : decode cX1_strengthOf 77 = .ok (.invokevirtual 67, 3) := by decide +kernel
theorem dX1_strengthOf_80 : decode cX1_strengthOf 80 = .ok (.istore_n 3, 1) := by decide +kernel
theorem dX1_strengthOf_81 : decode cX1_strengthOf 81 = .ok (.iinc 6 (-1), 3) := by decide +kernel
theorem dX1_strengthOf_84 : decode cX1_strengthOf 84 = .ok (.goto (-68), 3) := by decide +kernel
theorem dX1_strengthOf_87 : decode cX1_strengthOf 87 = .ok (.aload_n 0, 1) := by decide +kernel
theorem dX1_strengthOf_88 : decode cX1_strengthOf 88 = .ok (.getfield 27, 3) := by decide +kernel
theorem dX1_strengthOf_91 : decode cX1_strengthOf 91 = .ok (.iload 5, 2) := by decide +kernel
theorem dX1_strengthOf_93 : decode cX1_strengthOf 93 = .ok (.aload_n 0, 1) := by decide +kernel
theorem dX1_strengthOf_94 : decode cX1_strengthOf 94 = .ok (.getfield 27, 3) := by decide +kernel
theorem dX1_strengthOf_97 : decode cX1_strengthOf 97 = .ok (.iload_n 1, 1) := by decide +kernel
theorem dX1_strengthOf_98 : decode cX1_strengthOf 98 = .ok (.iload_n 2, 1) := by decide +kernel
theorem dX1_strengthOf_99 : decode cX1_strengthOf 99 = .ok (.invokevirtual 87, 3) := by decide +kernel
theorem dX1_strengthOf_102 : decode cX1_strengthOf 102 = .ok (.imul, 1) := by decide +kernel
theorem dX1_strengthOf_103 : decode cX1_strengthOf 103 = .ok (.invokevirtual 67, 3) := by decide +kernel
theorem dX1_strengthOf_106 : decode cX1_strengthOf 106 = .ok (.istore 6, 2) := by decide +kernel
theorem dX1_strengthOf_108 : decode cX1_strengthOf 108 = .ok (.aload_n 0, 1) := by decide +kernel
theorem dX1_strengthOf_109 : decode cX1_strengthOf 109 = .ok (.getfield 27, 3) := by decide +kernel
theorem dX1_strengthOf_112 : decode cX1_strengthOf 112 = .ok (.iload 4, 2) := by decide +kernel
theorem dX1_strengthOf_114 : decode cX1_strengthOf 114 = .ok (.aload_n 0, 1) := by decide +kernel
theorem dX1_strengthOf_115 : decode cX1_strengthOf 115 = .ok (.getfield 27, 3) := by decide +kernel
theorem dX1_strengthOf_118 : decode cX1_strengthOf 118 = .ok (.iload 6, 2) := by decide +kernel
theorem dX1_strengthOf_120 : decode cX1_strengthOf 120 = .ok (.invokevirtual 62, 3) := by decide +kernel
theorem dX1_strengthOf_123 : decode cX1_strengthOf 123 = .ok (.imul, 1) := by decide +kernel
theorem dX1_strengthOf_124 : decode cX1_strengthOf 124 = .ok (.invokevirtual 67, 3) := by decide +kernel
theorem dX1_strengthOf_127 : decode cX1_strengthOf 127 = .ok (.ireturn, 1) := by decide +kernel
theorem dX1_mend_0 : decode cX1_mend 0 = .ok (.aload_n 0, 1) := by decide +kernel
theorem dX1_mend_1 : decode cX1_mend 1 = .ok (.getfield 31, 3) := by decide +kernel
theorem dX1_mend_4 : decode cX1_mend 4 = .ok (.istore_n 3, 1) := by decide +kernel
theorem dX1_mend_5 : decode cX1_mend 5 = .ok (.iconst 0, 1) := by decide +kernel
theorem dX1_mend_6 : decode cX1_mend 6 = .ok (.istore 4, 2) := by decide +kernel
theorem dX1_mend_8 : decode cX1_mend 8 = .ok (.iconst (-1), 1) := by decide +kernel
theorem dX1_mend_9 : decode cX1_mend 9 = .ok (.istore 5, 2) := by decide +kernel
theorem dX1_mend_11 : decode cX1_mend 11 = .ok (.iconst 0, 1) := by decide +kernel
theorem dX1_mend_12 : decode cX1_mend 12 = .ok (.istore 6, 2) := by decide +kernel
theorem dX1_mend_14 : decode cX1_mend 14 = .ok (.iload 6, 2) := by decide +kernel
theorem dX1_mend_16 : decode cX1_mend 16 = .ok (.aload_n 0, 1) := by decide +kernel
theorem dX1_mend_17 : decode cX1_mend 17 = .ok (.getfield 27, 3) := by decide +kernel
theorem dX1_mend_20 : decode cX1_mend 20 = .ok (.getfield 77, 3) := by decide +kernel
theorem dX1_mend_23 : decode cX1_mend 23 = .ok (.if_icmp .ge 61, 3) := by decide +kernel
theorem dX1_mend_26 : decode cX1_mend 26 = .ok (.aload_n 0, 1) := by decide +kernel
theorem dX1_mend_27 : decode cX1_mend 27 = .ok (.getfield 9, 3) := by decide +kernel
theorem dX1_mend_30 : decode cX1_mend 30 = .ok (.iload_n 1, 1) := by decide +kernel
theorem dX1_mend_31 : decode cX1_mend 31 = .ok (.iload 6, 2) := by decide +kernel
theorem dX1_mend_33 : decode cX1_mend 33 = .ok (.iastore, 1) := by decide +kernel
theorem dX1_mend_34 : decode cX1_mend 34 = .ok (.aload_n 0, 1) := by decide +kernel
theorem dX1_mend_35 : decode cX1_mend 35 = .ok (.iload_n 3, 1) := by decide +kernel
theorem dX1_mend_36 : decode cX1_mend 36 = .ok (.invokevirtual 90, 3) := by decide +kernel
theorem dX1_mend_39 : decode cX1_mend 39 = .ok (.aload_n 0, 1) := by decide +kernel
theorem dX1_mend_40 : decode cX1_mend 40 = .ok (.getfield 44, 3) := by decide +kernel
theorem dX1_mend_43 : decode cX1_mend 43 = .ok (.iload_n 3, 1) := by decide +kernel
theorem dX1_mend_44 : decode cX1_mend 44 = .ok (.if_icmp .lt 8, 3) := by decide +kernel
theorem dX1_mend_47 : decode cX1_mend 47 = .ok (.iload 4, 2) := by decide +kernel
theorem dX1_mend_49 : decode cX1_mend 49 = .ok (.ifCond .ne 18, 3) := by decide +kernel
theorem dX1_mend_52 : decode cX1_mend 52 = .ok (.aload_n 0, 1) := by decide +kernel
theorem dX1_mend_53 : decode cX1_mend 53 = .ok (.getfield 44, 3) := by decide +kernel
theorem dX1_mend_56 : decode cX1_mend 56 = .ok (.istore_n 3, 1) := by decide +kernel
theorem dX1_mend_57 : decode cX1_mend 57 = .ok (.iconst 1, 1) := by decide +kernel
theorem dX1_mend_58 : decode cX1_mend 58 = .ok (.istore 4, 2) := by decide +kernel
theorem dX1_mend_60 : decode cX1_mend 60 = .ok (.iload 6, 2) := by decide +kernel
theorem dX1_mend_62 : decode cX1_mend 62 = .ok (.istore 5, 2) := by decide +kernel
theorem dX1_mend_64 : decode cX1_mend 64 = .ok (.goto 14, 3) := by decide +kernel
theorem dX1_mend_67 : decode cX1_mend 67 = .ok (.aload_n 0, 1) := by decide +kernel
theorem dX1_mend_68 : decode cX1_mend 68 = .ok (.getfield 44, 3) := by decide +kernel
theorem dX1_mend_71 : decode cX1_mend 71 = .ok (.iload_n 3, 1) := by decide +kernel
theorem dX1_mend_72 : decode cX1_mend 72 = .ok (.if_icmp .ne 6, 3) := by decide +kernel
theorem dX1_mend_75 : decode cX1_mend 75 = .ok (.iinc 4 1, 3) := by decide +kernel
theorem dX1_mend_78 : decode cX1_mend 78 = .ok (.iinc 6 1, 3) := by decide +kernel
theorem dX1_mend_81 : decode cX1_mend 81 = .ok (.goto (-67), 3) := by decide +kernel
theorem dX1_mend_84 : decode cX1_mend 84 = .ok (.iload_n 2, 1) := by decide +kernel
theorem dX1_mend_85 : decode cX1_mend 85 = .ok (.ifCond .ne 5, 3) := by decide +kernel
theorem dX1_mend_88 : decode cX1_mend 88 = .ok (.iload_n 3, 1) := by decide +kernel
theorem dX1_mend_89 : decode cX1_mend 89 = .ok (.ireturn, 1) := by decide +kernel
theorem dX1_mend_90 : decode cX1_mend 90 = .ok (.iload_n 2, 1) := by decide +kernel
theorem dX1_mend_91 : decode cX1_mend 91 = .ok (.iconst 1, 1) := by decide +kernel
theorem dX1_mend_92 : decode cX1_mend 92 = .ok (.if_icmp .ne 8, 3) := by decide +kernel
theorem dX1_mend_95 : decode cX1_mend 95 = .ok (.iload 4, 2) := by decide +kernel
theorem dX1_mend_97 : decode cX1_mend 97 = .ok (.goto 5, 3) := by decide +kernel
theorem dX1_mend_100 : decode cX1_mend 100 = .ok (.iload 5, 2) := by decide +kernel
theorem dX1_mend_102 : decode cX1_mend 102 = .ok (.ireturn, 1) := by decide +kernel
