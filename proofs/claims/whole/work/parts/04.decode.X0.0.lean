theorem dX0_pairs_0 : decode cX0_pairs 0 = .ok (.iload_n 0, 1) := by decide +kernel
theorem dX0_pairs_1 : decode cX0_pairs 1 = .ok (.iload_n 0, 1) := by decide +kernel
theorem dX0_pairs_2 : decode cX0_pairs 2 = .ok (.iload_n 1, 1) := by decide +kernel
theorem dX0_pairs_3 : decode cX0_pairs 3 = .ok (.ishr, 1) := by decide +kernel
theorem dX0_pairs_4 : decode cX0_pairs 4 = .ok (.iand, 1) := by decide +kernel
theorem dX0_pairs_5 : decode cX0_pairs 5 = .ok (.invokestatic 9, 3) := by decide +kernel
theorem dX0_pairs_8 : decode cX0_pairs 8 = .ok (.ireturn, 1) := by decide +kernel
theorem dX0_reach_0 : decode cX0_reach 0 = .ok (.iconst 0, 1) := by decide +kernel
theorem dX0_reach_1 : decode cX0_reach 1 = .ok (.istore_n 1, 1) := by decide +kernel
theorem dX0_reach_2 : decode cX0_reach 2 = .ok (.iload_n 1, 1) := by decide +kernel
theorem dX0_reach_3 : decode cX0_reach 3 = .ok (.bipush 24, 2) := by decide +kernel
theorem dX0_reach_5 : decode cX0_reach 5 = .ok (.if_icmp .ge 21, 3) := by decide +kernel
theorem dX0_reach_8 : decode cX0_reach 8 = .ok (.iload_n 0, 1) := by decide +kernel
theorem dX0_reach_9 : decode cX0_reach 9 = .ok (.iload_n 1, 1) := by decide +kernel
theorem dX0_reach_10 : decode cX0_reach 10 = .ok (.invokestatic 15, 3) := by decide +kernel
theorem dX0_reach_13 : decode cX0_reach 13 = .ok (.ifCond .ne 7, 3) := by decide +kernel
theorem dX0_reach_16 : decode cX0_reach 16 = .ok (.iload_n 1, 1) := by decide +kernel
theorem dX0_reach_17 : decode cX0_reach 17 = .ok (.iconst 1, 1) := by decide +kernel
theorem dX0_reach_18 : decode cX0_reach 18 = .ok (.isub, 1) := by decide +kernel
theorem dX0_reach_19 : decode cX0_reach 19 = .ok (.ireturn, 1) := by decide +kernel
theorem dX0_reach_20 : decode cX0_reach 20 = .ok (.iinc 1 1, 3) := by decide +kernel
theorem dX0_reach_23 : decode cX0_reach 23 = .ok (.goto (-21), 3) := by decide +kernel
theorem dX0_reach_26 : decode cX0_reach 26 = .ok (.bipush 23, 2) := by decide +kernel
theorem dX0_reach_28 : decode cX0_reach 28 = .ok (.ireturn, 1) := by decide +kernel
theorem dX0_greatest_0 : decode cX0_greatest 0 = .ok (.bipush 23, 2) := by decide +kernel
theorem dX0_greatest_2 : decode cX0_greatest 2 = .ok (.istore_n 1, 1) := by decide +kernel
theorem dX0_greatest_3 : decode cX0_greatest 3 = .ok (.iload_n 1, 1) := by decide +kernel
theorem dX0_greatest_4 : decode cX0_greatest 4 = .ok (.ifCond .lt 19, 3) := by decide +kernel
theorem dX0_greatest_7 : decode cX0_greatest 7 = .ok (.iload_n 0, 1) := by decide +kernel
theorem dX0_greatest_8 : decode cX0_greatest 8 = .ok (.iload_n 1, 1) := by decide +kernel
theorem dX0_greatest_9 : decode cX0_greatest 9 = .ok (.invokestatic 15, 3) := by decide +kernel
theorem dX0_greatest_12 : decode cX0_greatest 12 = .ok (.ifCond .eq 5, 3) := by decide +kernel
theorem dX0_greatest_15 : decode cX0_greatest 15 = .ok (.iload_n 1, 1) := by decide +kernel
theorem dX0_greatest_16 : decode cX0_greatest 16 = .ok (.ireturn, 1) := by decide +kernel
theorem dX0_greatest_17 : decode cX0_greatest 17 = .ok (.iinc 1 (-1), 3) := by decide +kernel
theorem dX0_greatest_20 : decode cX0_greatest 20 = .ok (.goto (-17), 3) := by decide +kernel
theorem dX0_greatest_23 : decode cX0_greatest 23 = .ok (.iconst (-1), 1) := by decide +kernel
theorem dX0_greatest_24 : decode cX0_greatest 24 = .ok (.ireturn, 1) := by decide +kernel
theorem dX0_present_0 : decode cX0_present 0 = .ok (.iconst 0, 1) := by decide +kernel
theorem dX0_present_1 : decode cX0_present 1 = .ok (.istore_n 1, 1) := by decide +kernel
theorem dX0_present_2 : decode cX0_present 2 = .ok (.iconst 0, 1) := by decide +kernel
theorem dX0_present_3 : decode cX0_present 3 = .ok (.istore_n 2, 1) := by decide +kernel
theorem dX0_present_4 : decode cX0_present 4 = .ok (.iload_n 2, 1) := by decide +kernel
theorem dX0_present_5 : decode cX0_present 5 = .ok (.bipush 24, 2) := by decide +kernel
theorem dX0_present_7 : decode cX0_present 7 = .ok (.if_icmp .ge 20, 3) := by decide +kernel
theorem dX0_present_10 : decode cX0_present 10 = .ok (.iload_n 0, 1) := by decide +kernel
theorem dX0_present_11 : decode cX0_present 11 = .ok (.iload_n 2, 1) := by decide +kernel
theorem dX0_present_12 : decode cX0_present 12 = .ok (.invokestatic 15, 3) := by decide +kernel
theorem dX0_present_15 : decode cX0_present 15 = .ok (.ifCond .eq 6, 3) := by decide +kernel
theorem dX0_present_18 : decode cX0_present 18 = .ok (.iinc 1 1, 3) := by decide +kernel
theorem dX0_present_21 : decode cX0_present 21 = .ok (.iinc 2 1, 3) := by decide +kernel
theorem dX0_present_24 : decode cX0_present 24 = .ok (.goto (-20), 3) := by decide +kernel
theorem dX0_present_27 : decode cX0_present 27 = .ok (.iload_n 1, 1) := by decide +kernel
theorem dX0_present_28 : decode cX0_present 28 = .ok (.ireturn, 1) := by decide +kernel
theorem dX0_holes_0 : decode cX0_holes 0 = .ok (.iload_n 0, 1) := by decide +kernel
theorem dX0_holes_1 : decode cX0_holes 1 = .ok (.invokestatic 21, 3) := by decide +kernel
theorem dX0_holes_4 : decode cX0_holes 4 = .ok (.iconst 1, 1) := by decide +kernel
theorem dX0_holes_5 : decode cX0_holes 5 = .ok (.iadd, 1) := by decide +kernel
theorem dX0_holes_6 : decode cX0_holes 6 = .ok (.iload_n 0, 1) := by decide +kernel
theorem dX0_holes_7 : decode cX0_holes 7 = .ok (.invokestatic 24, 3) := by decide +kernel
theorem dX0_holes_10 : decode cX0_holes 10 = .ok (.isub, 1) := by decide +kernel
theorem dX0_holes_11 : decode cX0_holes 11 = .ok (.ireturn, 1) := by decide +kernel
theorem dX0_bestPlace_0 : decode cX0_bestPlace 0 = .ok (.iconst (-1), 1) := by decide +kernel
theorem dX0_bestPlace_1 : decode cX0_bestPlace 1 = .ok (.istore_n 1, 1) := by decide +kernel
theorem dX0_bestPlace_2 : decode cX0_bestPlace 2 = .ok (.iconst (-1), 1) := by decide +kernel
theorem dX0_bestPlace_3 : decode cX0_bestPlace 3 = .ok (.istore_n 2, 1) := by decide +kernel
theorem dX0_bestPlace_4 : decode cX0_bestPlace 4 = .ok (.iconst 0, 1) := by decide +kernel
theorem dX0_bestPlace_5 : decode cX0_bestPlace 5 = .ok (.istore_n 3, 1) := by decide +kernel
theorem dX0_bestPlace_6 : decode cX0_bestPlace 6 = .ok (.iload_n 3, 1) := by decide +kernel
theorem dX0_bestPlace_7 : decode cX0_bestPlace 7 = .ok (.bipush 24, 2) := by decide +kernel
theorem dX0_bestPlace_9 : decode cX0_bestPlace 9 = .ok (.if_icmp .ge 38, 3) := by decide +kernel
theorem dX0_bestPlace_12 : decode cX0_bestPlace 12 = .ok (.iload_n 0, 1) := by decide +kernel
theorem dX0_bestPlace_13 : decode cX0_bestPlace 13 = .ok (.iload_n 3, 1) := by decide +kernel
theorem dX0_bestPlace_14 : decode cX0_bestPlace 14 = .ok (.ishr, 1) := by decide +kernel
theorem dX0_bestPlace_15 : decode cX0_bestPlace 15 = .ok (.iconst 1, 1) := by decide +kernel
theorem dX0_bestPlace_16 : decode cX0_bestPlace 16 = .ok (.iand, 1) := by decide +kernel
theorem dX0_bestPlace_17 : decode cX0_bestPlace 17 = .ok (.ifCond .ne 24, 3) := by decide +kernel
theorem dX0_bestPlace_20 : decode cX0_bestPlace 20 = .ok (.iload_n 0, 1) := by decide +kernel
theorem dX0_bestPlace_21 : decode cX0_bestPlace 21 = .ok (.iconst 1, 1) := by decide +kernel
theorem dX0_bestPlace_22 : decode cX0_bestPlace 22 = .ok (.iload_n 3, 1) := by decide +kernel
theorem dX0_bestPlace_23 : decode cX0_bestPlace 23 = .ok (.ishl, 1) := by decide +kernel
theorem dX0_bestPlace_24 : decode cX0_bestPlace 24 = .ok (.ior, 1) := by decide +kernel
theorem dX0_bestPlace_25 : decode cX0_bestPlace 25 = .ok (.invokestatic 27, 3) := by decide +kernel
theorem dX0_bestPlace_28 : decode cX0_bestPlace 28 = .ok (.istore 4, 2) := by decide +kernel
theorem dX0_bestPlace_30 : decode cX0_bestPlace 30 = .ok (.iload 4, 2) := by decide +kernel
theorem dX0_bestPlace_32 : decode cX0_bestPlace 32 = .ok (.iload_n 2, 1) := by decide +kernel
theorem dX0_bestPlace_33 : decode cX0_bestPlace 33 = .ok (.if_icmp .le 8, 3) := by decide +kernel
theorem dX0_bestPlace_36 : decode cX0_bestPlace 36 = .ok (.iload 4, 2) := by decide +kernel
theorem dX0_bestPlace_38 : decode cX0_bestPlace 38 = .ok (.istore_n 2, 1) := by decide +kernel
theorem dX0_bestPlace_39 : decode cX0_bestPlace 39 = .ok (.iload_n 3, 1) := by decide +kernel
theorem dX0_bestPlace_40 : decode cX0_bestPlace 40 = .ok (.istore_n 1, 1) := by decide +kernel
theorem dX0_bestPlace_41 : decode cX0_bestPlace 41 = .ok (.iinc 3 1, 3) := by decide +kernel
theorem dX0_bestPlace_44 : decode cX0_bestPlace 44 = .ok (.goto (-38), 3) := by decide +kernel
theorem dX0_bestPlace_47 : decode cX0_bestPlace 47 = .ok (.iload_n 1, 1) := by decide +kernel
theorem dX0_bestPlace_48 : decode cX0_bestPlace 48 = .ok (.ireturn, 1) := by decide +kernel
