theorem dX5_most_8 : decode cX5_most 8 = .ok (.if_icmp .gt 12, 3) := by decide +kernel
theorem dX5_most_11 : decode cX5_most 11 = .ok (.iload_n 2, 1) := by decide +kernel
theorem dX5_most_12 : decode cX5_most 12 = .ok (.ifCond .lt 8, 3) := by decide +kernel
theorem dX5_most_15 : decode cX5_most 15 = .ok (.iload_n 2, 1) := by decide +kernel
theorem dX5_most_16 : decode cX5_most 16 = .ok (.iconst 2, 1) := by decide +kernel
theorem dX5_most_17 : decode cX5_most 17 = .ok (.if_icmp .le 7, 3) := by decide +kernel
theorem dX5_most_20 : decode cX5_most 20 = .ok (.sipush (-1002), 3) := by decide +kernel
theorem dX5_most_23 : decode cX5_most 23 = .ok (.ireturn, 1) := by decide +kernel
theorem dX5_most_24 : decode cX5_most 24 = .ok (.aload_n 0, 1) := by decide +kernel
theorem dX5_most_25 : decode cX5_most 25 = .ok (.getfield 35, 3) := by decide +kernel
theorem dX5_most_28 : decode cX5_most 28 = .ok (.iload_n 1, 1) := by decide +kernel
theorem dX5_most_29 : decode cX5_most 29 = .ok (.iload_n 2, 1) := by decide +kernel
theorem dX5_most_30 : decode cX5_most 30 = .ok (.invokevirtual 215, 3) := by decide +kernel
theorem dX5_most_33 : decode cX5_most 33 = .ok (.ireturn, 1) := by decide +kernel
theorem dX5_isPlace_0 : decode cX5_isPlace 0 = .ok (.iload_n 0, 1) := by decide +kernel
theorem dX5_isPlace_1 : decode cX5_isPlace 1 = .ok (.ifCond .lt 13, 3) := by decide +kernel
theorem dX5_isPlace_4 : decode cX5_isPlace 4 = .ok (.iload_n 0, 1) := by decide +kernel
theorem dX5_isPlace_5 : decode cX5_isPlace 5 = .ok (.bipush 24, 2) := by decide +kernel
theorem dX5_isPlace_7 : decode cX5_isPlace 7 = .ok (.if_icmp .ge 7, 3) := by decide +kernel
theorem dX5_isPlace_10 : decode cX5_isPlace 10 = .ok (.iconst 1, 1) := by decide +kernel
theorem dX5_isPlace_11 : decode cX5_isPlace 11 = .ok (.goto 4, 3) := by decide +kernel
theorem dX5_isPlace_14 : decode cX5_isPlace 14 = .ok (.iconst 0, 1) := by decide +kernel
theorem dX5_isPlace_15 : decode cX5_isPlace 15 = .ok (.ireturn, 1) := by decide +kernel
theorem dX5_isSpan_0 : decode cX5_isSpan 0 = .ok (.iload_n 0, 1) := by decide +kernel
theorem dX5_isSpan_1 : decode cX5_isSpan 1 = .ok (.invokestatic 81, 3) := by decide +kernel
theorem dX5_isSpan_4 : decode cX5_isSpan 4 = .ok (.ifCond .eq 20, 3) := by decide +kernel
theorem dX5_isSpan_7 : decode cX5_isSpan 7 = .ok (.iload_n 1, 1) := by decide +kernel
theorem dX5_isSpan_8 : decode cX5_isSpan 8 = .ok (.iconst 1, 1) := by decide +kernel
theorem dX5_isSpan_9 : decode cX5_isSpan 9 = .ok (.if_icmp .lt 15, 3) := by decide +kernel
theorem dX5_isSpan_12 : decode cX5_isSpan 12 = .ok (.iload_n 1, 1) := by decide +kernel
theorem dX5_isSpan_13 : decode cX5_isSpan 13 = .ok (.bipush 24, 2) := by decide +kernel
theorem dX5_isSpan_15 : decode cX5_isSpan 15 = .ok (.iload_n 0, 1) := by decide +kernel
theorem dX5_isSpan_16 : decode cX5_isSpan 16 = .ok (.isub, 1) := by decide +kernel
theorem dX5_isSpan_17 : decode cX5_isSpan 17 = .ok (.if_icmp .gt 7, 3) := by decide +kernel
theorem dX5_isSpan_20 : decode cX5_isSpan 20 = .ok (.iconst 1, 1) := by decide +kernel
theorem dX5_isSpan_21 : decode cX5_isSpan 21 = .ok (.goto 4, 3) := by decide +kernel
theorem dX5_isSpan_24 : decode cX5_isSpan 24 = .ok (.iconst 0, 1) := by decide +kernel
theorem dX5_isSpan_25 : decode cX5_isSpan 25 = .ok (.ireturn, 1) := by decide +kernel
theorem dX5_isNear_0 : decode cX5_isNear 0 = .ok (.iload_n 0, 1) := by decide +kernel
theorem dX5_isNear_1 : decode cX5_isNear 1 = .ok (.bipush (-100), 2) := by decide +kernel
theorem dX5_isNear_3 : decode cX5_isNear 3 = .ok (.if_icmp .lt 13, 3) := by decide +kernel
theorem dX5_isNear_6 : decode cX5_isNear 6 = .ok (.iload_n 0, 1) := by decide +kernel
theorem dX5_isNear_7 : decode cX5_isNear 7 = .ok (.bipush 100, 2) := by decide +kernel
theorem dX5_isNear_9 : decode cX5_isNear 9 = .ok (.if_icmp .gt 7, 3) := by decide +kernel
theorem dX5_isNear_12 : decode cX5_isNear 12 = .ok (.iconst 1, 1) := by decide +kernel
theorem dX5_isNear_13 : decode cX5_isNear 13 = .ok (.goto 4, 3) := by decide +kernel
theorem dX5_isNear_16 : decode cX5_isNear 16 = .ok (.iconst 0, 1) := by decide +kernel
theorem dX5_isNear_17 : decode cX5_isNear 17 = .ok (.ireturn, 1) := by decide +kernel
theorem dX5_isWay_0 : decode cX5_isWay 0 = .ok (.iload_n 0, 1) := by decide +kernel
theorem dX5_isWay_1 : decode cX5_isWay 1 = .ok (.invokestatic 181, 3) := by decide +kernel
theorem dX5_isWay_4 : decode cX5_isWay 4 = .ok (.ifCond .eq 22, 3) := by decide +kernel
theorem dX5_isWay_7 : decode cX5_isWay 7 = .ok (.iload_n 1, 1) := by decide +kernel
theorem dX5_isWay_8 : decode cX5_isWay 8 = .ok (.invokestatic 181, 3) := by decide +kernel
theorem dX5_isWay_11 : decode cX5_isWay 11 = .ok (.ifCond .eq 15, 3) := by decide +kernel
theorem dX5_isWay_14 : decode cX5_isWay 14 = .ok (.iload_n 0, 1) := by decide +kernel
theorem dX5_isWay_15 : decode cX5_isWay 15 = .ok (.ifCond .ne 7, 3) := by decide +kernel
theorem dX5_isWay_18 : decode cX5_isWay 18 = .ok (.iload_n 1, 1) := by decide +kernel
theorem dX5_isWay_19 : decode cX5_isWay 19 = .ok (.ifCond .eq 7, 3) := by decide +kernel
theorem dX5_isWay_22 : decode cX5_isWay 22 = .ok (.iconst 1, 1) := by decide +kernel
theorem dX5_isWay_23 : decode cX5_isWay 23 = .ok (.goto 4, 3) := by decide +kernel
theorem dX5_isWay_26 : decode cX5_isWay 26 = .ok (.iconst 0, 1) := by decide +kernel
theorem dX5_isWay_27 : decode cX5_isWay 27 = .ok (.ireturn, 1) := by decide +kernel
theorem dX5_spanRefusal_0 : decode cX5_spanRefusal 0 = .ok (.iload_n 1, 1) := by decide +kernel
theorem dX5_spanRefusal_1 : decode cX5_spanRefusal 1 = .ok (.iload_n 2, 1) := by decide +kernel
theorem dX5_spanRefusal_2 : decode cX5_spanRefusal 2 = .ok (.invokestatic 152, 3) := by decide +kernel
theorem dX5_spanRefusal_5 : decode cX5_spanRefusal 5 = .ok (.ifCond .ne 7, 3) := by decide +kernel
theorem dX5_spanRefusal_8 : decode cX5_spanRefusal 8 = .ok (.sipush (-1002), 3) := by decide +kernel
theorem dX5_spanRefusal_11 : decode cX5_spanRefusal 11 = .ok (.ireturn, 1) := by decide +kernel
theorem dX5_spanRefusal_12 : decode cX5_spanRefusal 12 = .ok (.aload_n 0, 1) := by decide +kernel
theorem dX5_spanRefusal_13 : decode cX5_spanRefusal 13 = .ok (.getfield 21, 3) := by decide +kernel
theorem dX5_spanRefusal_16 : decode cX5_spanRefusal 16 = .ok (.iload_n 1, 1) := by decide +kernel
theorem dX5_spanRefusal_17 : decode cX5_spanRefusal 17 = .ok (.iload_n 2, 1) := by decide +kernel
theorem dX5_spanRefusal_18 : decode cX5_spanRefusal 18 = .ok (.invokevirtual 156, 3) := by decide +kernel
theorem dX5_spanRefusal_21 : decode cX5_spanRefusal 21 = .ok (.ifCond .eq 7, 3) := by decide +kernel
theorem dX5_spanRefusal_24 : decode cX5_spanRefusal 24 = .ok (.iconst 0, 1) := by decide +kernel
theorem dX5_spanRefusal_25 : decode cX5_spanRefusal 25 = .ok (.goto 6, 3) := by decide +kernel
theorem dX5_spanRefusal_28 : decode cX5_spanRefusal 28 = .ok (.sipush (-1003), 3) := by decide +kernel
theorem dX5_spanRefusal_31 : decode cX5_spanRefusal 31 = .ok (.ireturn, 1) := by decide +kernel
theorem dX5_findLaw_0 : decode cX5_findLaw 0 = .ok (.aload_n 0, 1) := by decide +kernel
theorem dX5_findLaw_1 : decode cX5_findLaw 1 = .ok (.getfield 28, 3) := by decide +kernel
theorem dX5_findLaw_4 : decode cX5_findLaw 4 = .ok (.aload_n 0, 1) := by decide +kernel
theorem dX5_findLaw_5 : decode cX5_findLaw 5 = .ok (.getfield 21, 3) := by decide +kernel
theorem dX5_findLaw_8 : decode cX5_findLaw 8 = .ok (.iload_n 1, 1) := by decide +kernel
theorem dX5_findLaw_9 : decode cX5_findLaw 9 = .ok (.iload_n 2, 1) := by decide +kernel
theorem dX5_findLaw_10 : decode cX5_findLaw 10 = .ok (.invokevirtual 159, 3) := by decide +kernel
theorem dX5_findLaw_13 : decode cX5_findLaw 13 = .ok (.aload_n 0, 1) := by decide +kernel
theorem dX5_findLaw_14 : decode cX5_findLaw 14 = .ok (.getfield 28, 3) := by decide +kernel
theorem dX5_findLaw_17 : decode cX5_findLaw 17 = .ok (.iload_n 2, 1) := by decide +kernel
theorem dX5_findLaw_18 : decode cX5_findLaw 18 = .ok (.invokevirtual 218, 3) := by decide +kernel
theorem dX5_findLaw_21 : decode cX5_findLaw 21 = .ok (.return_, 1) := by decide +kernel
theorem dX5_findSlants_0 : decode cX5_findSlants 0 = .ok (.aload_n 0, 1) := by decide +kernel
theorem dX5_findSlants_1 : decode cX5_findSlants 1 = .ok (.iload_n 1, 1) := by decide +kernel
theorem dX5_findSlants_2 : decode cX5_findSlants 2 = .ok (.iload_n 2, 1) := by decide +kernel
theorem dX5_findSlants_3 : decode cX5_findSlants 3 = .ok (.invokevirtual 120, 3) := by decide +kernel
theorem dX5_findSlants_6 : decode cX5_findSlants 6 = .ok (.istore_n 3, 1) := by decide +kernel
theorem dX5_findSlants_7 : decode cX5_findSlants 7 = .ok (.iload_n 3, 1) := by decide +kernel
theorem dX5_findSlants_8 : decode cX5_findSlants 8 = .ok (.ifCond .eq 5, 3) := by decide +kernel
theorem dX5_findSlants_11 : decode cX5_findSlants 11 = .ok (.iload_n 3, 1) := by decide +kernel
theorem dX5_findSlants_12 : decode cX5_findSlants 12 = .ok (.ireturn, 1) := by decide +kernel
theorem dX5_findSlants_13 : decode cX5_findSlants 13 = .ok (.aload_n 0, 1) := by decide +kernel
theorem dX5_findSlants_14 : decode cX5_findSlants 14 = .ok (.iload_n 1, 1) := by decide +kernel
theorem dX5_findSlants_15 : decode cX5_findSlants 15 = .ok (.iload_n 2, 1) := by decide +kernel
theorem dX5_findSlants_16 : decode cX5_findSlants 16 = .ok (.invokevirtual 123, 3) := by decide +kernel
theorem dX5_findSlants_19 : decode cX5_findSlants 19 = .ok (.aload_n 0, 1) := by decide +kernel
theorem dX5_findSlants_20 : decode cX5_findSlants 20 = .ok (.getfield 28, 3) := by decide +kernel
theorem dX5_findSlants_23 : decode cX5_findSlants 23 = .ok (.invokevirtual 130, 3) := by decide +kernel
theorem dX5_findSlants_26 : decode cX5_findSlants 26 = .ok (.ifCond .ne 7, 3) := by decide +kernel
theorem dX5_findSlants_29 : decode cX5_findSlants 29 = .ok (.sipush (-1003), 3) := by decide +kernel
theorem dX5_findSlants_32 : decode cX5_findSlants 32 = .ok (.ireturn, 1) := by decide +kernel
theorem dX5_findSlants_33 : decode cX5_findSlants 33 = .ok (.aload_n 0, 1) := by decide +kernel
theorem dX5_findSlants_34 : decode cX5_findSlants 34 = .ok (.getfield 28, 3) := by decide +kernel
theorem dX5_findSlants_37 : decode cX5_findSlants 37 = .ok (.invokevirtual 221, 3) := by decide +kernel
theorem dX5_findSlants_40 : decode cX5_findSlants 40 = .ok (.iconst 0, 1) := by decide +kernel
theorem dX5_findSlants_41 : decode cX5_findSlants 41 = .ok (.ireturn, 1) := by decide +kernel
theorem dX5_commonDivisor_0 : decode cX5_commonDivisor 0 = .ok (.iconst 0, 1) := by decide +kernel
theorem dX5_commonDivisor_1 : decode cX5_commonDivisor 1 = .ok (.istore 4, 2) := by decide +kernel
theorem dX5_commonDivisor_3 : decode cX5_commonDivisor 3 = .ok (.iload 4, 2) := by decide +kernel
theorem dX5_commonDivisor_5 : decode cX5_commonDivisor 5 = .ok (.sipush 200, 3) := by decide +kernel
theorem dX5_commonDivisor_8 : decode cX5_commonDivisor 8 = .ok (.if_icmp .ge 25, 3) := by decide +kernel
theorem dX5_commonDivisor_11 : decode cX5_commonDivisor 11 = .ok (.lload_n 2, 1) := by decide +kernel
theorem dX5_commonDivisor_12 : decode cX5_commonDivisor 12 = .ok (.lconst 0, 1) := by decide +kernel
theorem dX5_commonDivisor_13 : decode cX5_commonDivisor 13 = .ok (.lcmp, 1) := by decide +kernel
theorem dX5_commonDivisor_14 : decode cX5_commonDivisor 14 = .ok (.ifCond .eq 19, 3) := by decide +kernel
theorem dX5_commonDivisor_17 : decode cX5_commonDivisor 17 = .ok (.lload_n 0, 1) := by decide +kernel
theorem dX5_commonDivisor_18 : decode cX5_commonDivisor 18 = .ok (.lload_n 2, 1) := by decide +kernel
theorem dX5_commonDivisor_19 : decode cX5_commonDivisor 19 = .ok (.lrem, 1) := by decide +kernel
theorem dX5_commonDivisor_20 : decode cX5_commonDivisor 20 = .ok (.lstore 5, 2) := by decide +kernel
theorem dX5_commonDivisor_22 : decode cX5_commonDivisor 22 = .ok (.lload_n 2, 1) := by decide +kernel
theorem dX5_commonDivisor_23 : decode cX5_commonDivisor 23 = .ok (.lstore_n 0, 1) := by decide +kernel
theorem dX5_commonDivisor_24 : decode cX5_commonDivisor 24 = .ok (.lload 5, 2) := by decide +kernel
theorem dX5_commonDivisor_26 : decode cX5_commonDivisor 26 = .ok (.lstore_n 2, 1) := by decide +kernel
theorem dX5_commonDivisor_27 : decode cX5_commonDivisor 27 = .ok (.iinc 4 1, 3) := by decide +kernel
theorem dX5_commonDivisor_30 : decode cX5_commonDivisor 30 = .ok (.goto (-27), 3) := by decide +kernel
theorem dX5_commonDivisor_33 : decode cX5_commonDivisor 33 = .ok (.lload_n 0, 1) := by decide +kernel
theorem dX5_commonDivisor_34 : decode cX5_commonDivisor 34 = .ok (.lreturn, 1) := by decide +kernel
