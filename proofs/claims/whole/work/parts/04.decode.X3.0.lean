theorem dX3_init_0 : decode cX3_init 0 = .ok (.aload_n 0, 1) := by decide +kernel
theorem dX3_init_1 : decode cX3_init 1 = .ok (.invokespecial 3, 3) := by decide +kernel
theorem dX3_init_4 : decode cX3_init 4 = .ok (.aload_n 0, 1) := by decide +kernel
theorem dX3_init_5 : decode cX3_init 5 = .ok (.ldc 9, 2) := by decide +kernel
theorem dX3_init_7 : decode cX3_init 7 = .ok (.putfield 10, 3) := by decide +kernel
theorem dX3_init_10 : decode cX3_init 10 = .ok (.aload_n 0, 1) := by decide +kernel
theorem dX3_init_11 : decode cX3_init 11 = .ok (.bipush 8, 2) := by decide +kernel
theorem dX3_init_13 : decode cX3_init 13 = .ok (.newarray .int, 2) := by decide +kernel
theorem dX3_init_15 : decode cX3_init 15 = .ok (.putfield 16, 3) := by decide +kernel
theorem dX3_init_18 : decode cX3_init 18 = .ok (.aload_n 0, 1) := by decide +kernel
theorem dX3_init_19 : decode cX3_init 19 = .ok (.bipush 8, 2) := by decide +kernel
theorem dX3_init_21 : decode cX3_init 21 = .ok (.newarray .int, 2) := by decide +kernel
theorem dX3_init_23 : decode cX3_init 23 = .ok (.putfield 20, 3) := by decide +kernel
theorem dX3_init_26 : decode cX3_init 26 = .ok (.aload_n 0, 1) := by decide +kernel
theorem dX3_init_27 : decode cX3_init 27 = .ok (.bipush 24, 2) := by decide +kernel
theorem dX3_init_29 : decode cX3_init 29 = .ok (.newarray .int, 2) := by decide +kernel
theorem dX3_init_31 : decode cX3_init 31 = .ok (.putfield 23, 3) := by decide +kernel
theorem dX3_init_34 : decode cX3_init 34 = .ok (.aload_n 0, 1) := by decide +kernel
theorem dX3_init_35 : decode cX3_init 35 = .ok (.bipush 24, 2) := by decide +kernel
theorem dX3_init_37 : decode cX3_init 37 = .ok (.newarray .int, 2) := by decide +kernel
theorem dX3_init_39 : decode cX3_init 39 = .ok (.putfield 26, 3) := by decide +kernel
theorem dX3_init_42 : decode cX3_init 42 = .ok (.aload_n 0, 1) := by decide +kernel
theorem dX3_init_43 : decode cX3_init 43 = .ok (.bipush 24, 2) := by decide +kernel
theorem dX3_init_45 : decode cX3_init 45 = .ok (.newarray .int, 2) := by decide +kernel
theorem dX3_init_47 : decode cX3_init 47 = .ok (.putfield 29, 3) := by decide +kernel
theorem dX3_init_50 : decode cX3_init 50 = .ok (.aload_n 0, 1) := by decide +kernel
theorem dX3_init_51 : decode cX3_init 51 = .ok (.bipush 97, 2) := by decide +kernel
theorem dX3_init_53 : decode cX3_init 53 = .ok (.newarray .int, 2) := by decide +kernel
theorem dX3_init_55 : decode cX3_init 55 = .ok (.putfield 32, 3) := by decide +kernel
theorem dX3_init_58 : decode cX3_init 58 = .ok (.aload_n 0, 1) := by decide +kernel
theorem dX3_init_59 : decode cX3_init 59 = .ok (.aload_n 1, 1) := by decide +kernel
theorem dX3_init_60 : decode cX3_init 60 = .ok (.putfield 35, 3) := by decide +kernel
theorem dX3_init_63 : decode cX3_init 63 = .ok (.aload_n 0, 1) := by decide +kernel
theorem dX3_init_64 : decode cX3_init 64 = .ok (.invokevirtual 39, 3) := by decide +kernel
theorem dX3_init_67 : decode cX3_init 67 = .ok (.return_, 1) := by decide +kernel
theorem dX3_clear_0 : decode cX3_clear 0 = .ok (.aload_n 0, 1) := by decide +kernel
theorem dX3_clear_1 : decode cX3_clear 1 = .ok (.iconst 0, 1) := by decide +kernel
theorem dX3_clear_2 : decode cX3_clear 2 = .ok (.putfield 42, 3) := by decide +kernel
theorem dX3_clear_5 : decode cX3_clear 5 = .ok (.iconst 0, 1) := by decide +kernel
theorem dX3_clear_6 : decode cX3_clear 6 = .ok (.istore_n 1, 1) := by decide +kernel
theorem dX3_clear_7 : decode cX3_clear 7 = .ok (.iload_n 1, 1) := by decide +kernel
theorem dX3_clear_8 : decode cX3_clear 8 = .ok (.bipush 24, 2) := by decide +kernel
theorem dX3_clear_10 : decode cX3_clear 10 = .ok (.if_icmp .ge 30, 3) := by decide +kernel
theorem dX3_clear_13 : decode cX3_clear 13 = .ok (.aload_n 0, 1) := by decide +kernel
theorem dX3_clear_14 : decode cX3_clear 14 = .ok (.getfield 23, 3) := by decide +kernel
theorem dX3_clear_17 : decode cX3_clear 17 = .ok (.iload_n 1, 1) := by decide +kernel
theorem dX3_clear_18 : decode cX3_clear 18 = .ok (.iconst 1, 1) := by decide +kernel
theorem dX3_clear_19 : decode cX3_clear 19 = .ok (.iastore, 1) := by decide +kernel
theorem dX3_clear_20 : decode cX3_clear 20 = .ok (.aload_n 0, 1) := by decide +kernel
theorem dX3_clear_21 : decode cX3_clear 21 = .ok (.getfield 26, 3) := by decide +kernel
theorem dX3_clear_24 : decode cX3_clear 24 = .ok (.iload_n 1, 1) := by decide +kernel
theorem dX3_clear_25 : decode cX3_clear 25 = .ok (.iconst (-1), 1) := by decide +kernel
theorem dX3_clear_26 : decode cX3_clear 26 = .ok (.iastore, 1) := by decide +kernel
theorem dX3_clear_27 : decode cX3_clear 27 = .ok (.aload_n 0, 1) := by decide +kernel
theorem dX3_clear_28 : decode cX3_clear 28 = .ok (.getfield 29, 3) := by decide +kernel
theorem dX3_clear_31 : decode cX3_clear 31 = .ok (.iload_n 1, 1) := by decide +kernel
theorem dX3_clear_32 : decode cX3_clear 32 = .ok (.iconst 0, 1) := by decide +kernel
theorem dX3_clear_33 : decode cX3_clear 33 = .ok (.iastore, 1) := by decide +kernel
theorem dX3_clear_34 : decode cX3_clear 34 = .ok (.iinc 1 1, 3) := by decide +kernel
theorem dX3_clear_37 : decode cX3_clear 37 = .ok (.goto (-30), 3) := by decide +kernel
theorem dX3_clear_40 : decode cX3_clear 40 = .ok (.return_, 1) := by decide +kernel
theorem dX3_hasHearer_0 : decode cX3_hasHearer 0 = .ok (.aload_n 0, 1) := by decide +kernel
theorem dX3_hasHearer_1 : decode cX3_hasHearer 1 = .ok (.getfield 10, 3) := by decide +kernel
theorem dX3_hasHearer_4 : decode cX3_hasHearer 4 = .ok (.iload_n 1, 1) := by decide +kernel
theorem dX3_hasHearer_5 : decode cX3_hasHearer 5 = .ok (.ishr, 1) := by decide +kernel
theorem dX3_hasHearer_6 : decode cX3_hasHearer 6 = .ok (.iconst 1, 1) := by decide +kernel
theorem dX3_hasHearer_7 : decode cX3_hasHearer 7 = .ok (.iand, 1) := by decide +kernel
theorem dX3_hasHearer_8 : decode cX3_hasHearer 8 = .ok (.ifCond .eq 7, 3) := by decide +kernel
theorem dX3_hasHearer_11 : decode cX3_hasHearer 11 = .ok (.iconst 1, 1) := by decide +kernel
theorem dX3_hasHearer_12 : decode cX3_hasHearer 12 = .ok (.goto 4, 3) := by decide +kernel
theorem dX3_hasHearer_15 : decode cX3_hasHearer 15 = .ok (.iconst 0, 1) := by decide +kernel
theorem dX3_hasHearer_16 : decode cX3_hasHearer 16 = .ok (.ireturn, 1) := by decide +kernel
theorem dX3_hasHearers_0 : decode cX3_hasHearers 0 = .ok (.iconst 1, 1) := by decide +kernel
theorem dX3_hasHearers_1 : decode cX3_hasHearers 1 = .ok (.iload_n 2, 1) := by decide +kernel
theorem dX3_hasHearers_2 : decode cX3_hasHearers 2 = .ok (.ishl, 1) := by decide +kernel
theorem dX3_hasHearers_3 : decode cX3_hasHearers 3 = .ok (.iconst 1, 1) := by decide +kernel
theorem dX3_hasHearers_4 : decode cX3_hasHearers 4 = .ok (.isub, 1) := by decide +kernel
theorem dX3_hasHearers_5 : decode cX3_hasHearers 5 = .ok (.iload_n 1, 1) := by decide +kernel
theorem dX3_hasHearers_6 : decode cX3_hasHearers 6 = .ok (.ishl, 1) := by decide +kernel
theorem dX3_hasHearers_7 : decode cX3_hasHearers 7 = .ok (.istore_n 3, 1) := by decide +kernel
theorem dX3_hasHearers_8 : decode cX3_hasHearers 8 = .ok (.aload_n 0, 1) := by decide +kernel
theorem dX3_hasHearers_9 : decode cX3_hasHearers 9 = .ok (.getfield 10, 3) := by decide +kernel
theorem dX3_hasHearers_12 : decode cX3_hasHearers 12 = .ok (.iload_n 3, 1) := by decide +kernel
theorem dX3_hasHearers_13 : decode cX3_hasHearers 13 = .ok (.iand, 1) := by decide +kernel
theorem dX3_hasHearers_14 : decode cX3_hasHearers 14 = .ok (.iload_n 3, 1) := by decide +kernel
theorem dX3_hasHearers_15 : decode cX3_hasHearers 15 = .ok (.if_icmp .ne 7, 3) := by decide +kernel
theorem dX3_hasHearers_18 : decode cX3_hasHearers 18 = .ok (.iconst 1, 1) := by decide +kernel
theorem dX3_hasHearers_19 : decode cX3_hasHearers 19 = .ok (.goto 4, 3) := by decide +kernel
theorem dX3_hasHearers_22 : decode cX3_hasHearers 22 = .ok (.iconst 0, 1) := by decide +kernel
theorem dX3_hasHearers_23 : decode cX3_hasHearers 23 = .ok (.ireturn, 1) := by decide +kernel
theorem dX3_readAt_0 : decode cX3_readAt 0 = .ok (.aload_n 0, 1) := by decide +kernel
theorem dX3_readAt_1 : decode cX3_readAt 1 = .ok (.getfield 26, 3) := by decide +kernel
theorem dX3_readAt_4 : decode cX3_readAt 4 = .ok (.iload_n 1, 1) := by decide +kernel
theorem dX3_readAt_5 : decode cX3_readAt 5 = .ok (.iaload, 1) := by decide +kernel
theorem dX3_readAt_6 : decode cX3_readAt 6 = .ok (.iconst (-1), 1) := by decide +kernel
theorem dX3_readAt_7 : decode cX3_readAt 7 = .ok (.if_icmp .eq 12, 3) := by decide +kernel
theorem dX3_readAt_10 : decode cX3_readAt 10 = .ok (.aload_n 0, 1) := by decide +kernel
theorem dX3_readAt_11 : decode cX3_readAt 11 = .ok (.getfield 26, 3) := by decide +kernel
theorem dX3_readAt_14 : decode cX3_readAt 14 = .ok (.iload_n 1, 1) := by decide +kernel
theorem dX3_readAt_15 : decode cX3_readAt 15 = .ok (.iaload, 1) := by decide +kernel
theorem dX3_readAt_16 : decode cX3_readAt 16 = .ok (.goto 23, 3) := by decide +kernel
theorem dX3_readAt_19 : decode cX3_readAt 19 = .ok (.aload_n 0, 1) := by decide +kernel
theorem dX3_readAt_20 : decode cX3_readAt 20 = .ok (.getfield 35, 3) := by decide +kernel
theorem dX3_readAt_23 : decode cX3_readAt 23 = .ok (.aload_n 0, 1) := by decide +kernel
theorem dX3_readAt_24 : decode cX3_readAt 24 = .ok (.getfield 29, 3) := by decide +kernel
theorem dX3_readAt_27 : decode cX3_readAt 27 = .ok (.iload_n 1, 1) := by decide +kernel
theorem dX3_readAt_28 : decode cX3_readAt 28 = .ok (.iaload, 1) := by decide +kernel
theorem dX3_readAt_29 : decode cX3_readAt 29 = .ok (.aload_n 0, 1) := by decide +kernel
theorem dX3_readAt_30 : decode cX3_readAt 30 = .ok (.getfield 23, 3) := by decide +kernel
theorem dX3_readAt_33 : decode cX3_readAt 33 = .ok (.iload_n 1, 1) := by decide +kernel
theorem dX3_readAt_34 : decode cX3_readAt 34 = .ok (.iaload, 1) := by decide +kernel
theorem dX3_readAt_35 : decode cX3_readAt 35 = .ok (.imul, 1) := by decide +kernel
theorem dX3_readAt_36 : decode cX3_readAt 36 = .ok (.invokevirtual 45, 3) := by decide +kernel
theorem dX3_readAt_39 : decode cX3_readAt 39 = .ok (.ireturn, 1) := by decide +kernel
theorem dX3_readsByHand_0 : decode cX3_readsByHand 0 = .ok (.iconst 0, 1) := by decide +kernel
theorem dX3_readsByHand_1 : decode cX3_readsByHand 1 = .ok (.istore_n 1, 1) := by decide +kernel
theorem dX3_readsByHand_2 : decode cX3_readsByHand 2 = .ok (.iconst 0, 1) := by decide +kernel
theorem dX3_readsByHand_3 : decode cX3_readsByHand 3 = .ok (.istore_n 2, 1) := by decide +kernel
theorem dX3_readsByHand_4 : decode cX3_readsByHand 4 = .ok (.iload_n 2, 1) := by decide +kernel
theorem dX3_readsByHand_5 : decode cX3_readsByHand 5 = .ok (.bipush 24, 2) := by decide +kernel
theorem dX3_readsByHand_7 : decode cX3_readsByHand 7 = .ok (.if_icmp .ge 22, 3) := by decide +kernel
theorem dX3_readsByHand_10 : decode cX3_readsByHand 10 = .ok (.aload_n 0, 1) := by decide +kernel
theorem dX3_readsByHand_11 : decode cX3_readsByHand 11 = .ok (.getfield 26, 3) := by decide +kernel
theorem dX3_readsByHand_14 : decode cX3_readsByHand 14 = .ok (.iload_n 2, 1) := by decide +kernel
theorem dX3_readsByHand_15 : decode cX3_readsByHand 15 = .ok (.iaload, 1) := by decide +kernel
theorem dX3_readsByHand_16 : decode cX3_readsByHand 16 = .ok (.iconst (-1), 1) := by decide +kernel
theorem dX3_readsByHand_17 : decode cX3_readsByHand 17 = .ok (.if_icmp .eq 6, 3) := by decide +kernel
theorem dX3_readsByHand_20 : decode cX3_readsByHand 20 = .ok (.iinc 1 1, 3) := by decide +kernel
theorem dX3_readsByHand_23 : decode cX3_readsByHand 23 = .ok (.iinc 2 1, 3) := by decide +kernel
theorem dX3_readsByHand_26 : decode cX3_readsByHand 26 = .ok (.goto (-22), 3) := by decide +kernel
theorem dX3_readsByHand_29 : decode cX3_readsByHand 29 = .ok (.iload_n 1, 1) := by decide +kernel
theorem dX3_readsByHand_30 : decode cX3_readsByHand 30 = .ok (.ireturn, 1) := by decide +kernel
theorem dX3_hasSlant_0 : decode cX3_hasSlant 0 = .ok (.iconst 0, 1) := by decide +kernel
theorem dX3_hasSlant_1 : decode cX3_hasSlant 1 = .ok (.istore_n 2, 1) := by decide +kernel
theorem dX3_hasSlant_2 : decode cX3_hasSlant 2 = .ok (.iload_n 2, 1) := by decide +kernel
theorem dX3_hasSlant_3 : decode cX3_hasSlant 3 = .ok (.aload_n 0, 1) := by decide +kernel
theorem dX3_hasSlant_4 : decode cX3_hasSlant 4 = .ok (.getfield 42, 3) := by decide +kernel
theorem dX3_hasSlant_7 : decode cX3_hasSlant 7 = .ok (.if_icmp .ge 27, 3) := by decide +kernel
theorem dX3_hasSlant_10 : decode cX3_hasSlant 10 = .ok (.iload_n 2, 1) := by decide +kernel
theorem dX3_hasSlant_11 : decode cX3_hasSlant 11 = .ok (.bipush 8, 2) := by decide +kernel
theorem dX3_hasSlant_13 : decode cX3_hasSlant 13 = .ok (.if_icmp .ge 21, 3) := by decide +kernel
theorem dX3_hasSlant_16 : decode cX3_hasSlant 16 = .ok (.aload_n 0, 1) := by decide +kernel
theorem dX3_hasSlant_17 : decode cX3_hasSlant 17 = .ok (.getfield 16, 3) := by decide +kernel
theorem dX3_hasSlant_20 : decode cX3_hasSlant 20 = .ok (.iload_n 2, 1) := by decide +kernel
theorem dX3_hasSlant_21 : decode cX3_hasSlant 21 = .ok (.iaload, 1) := by decide +kernel
theorem dX3_hasSlant_22 : decode cX3_hasSlant 22 = .ok (.iload_n 1, 1) := by decide +kernel
theorem dX3_hasSlant_23 : decode cX3_hasSlant 23 = .ok (.if_icmp .ne 5, 3) := by decide +kernel
theorem dX3_hasSlant_26 : decode cX3_hasSlant 26 = .ok (.iconst 1, 1) := by decide +kernel
theorem dX3_hasSlant_27 : decode cX3_hasSlant 27 = .ok (.ireturn, 1) := by decide +kernel
theorem dX3_hasSlant_28 : decode cX3_hasSlant 28 = .ok (.iinc 2 1, 3) := by decide +kernel
theorem dX3_hasSlant_31 : decode cX3_hasSlant 31 = .ok (.goto (-29), 3) := by decide +kernel
theorem dX3_hasSlant_34 : decode cX3_hasSlant 34 = .ok (.iconst 0, 1) := by decide +kernel
theorem dX3_hasSlant_35 : decode cX3_hasSlant 35 = .ok (.ireturn, 1) := by decide +kernel
theorem dX3_addSender_0 : decode cX3_addSender 0 = .ok (.aload_n 0, 1) := by decide +kernel
theorem dX3_addSender_1 : decode cX3_addSender 1 = .ok (.getfield 42, 3) := by decide +kernel
theorem dX3_addSender_4 : decode cX3_addSender 4 = .ok (.istore_n 3, 1) := by decide +kernel
theorem dX3_addSender_5 : decode cX3_addSender 5 = .ok (.aload_n 0, 1) := by decide +kernel
theorem dX3_addSender_6 : decode cX3_addSender 6 = .ok (.getfield 16, 3) := by decide +kernel
theorem dX3_addSender_9 : decode cX3_addSender 9 = .ok (.iload_n 3, 1) := by decide +kernel
theorem dX3_addSender_10 : decode cX3_addSender 10 = .ok (.iload_n 1, 1) := by decide +kernel
theorem dX3_addSender_11 : decode cX3_addSender 11 = .ok (.iastore, 1) := by decide +kernel
theorem dX3_addSender_12 : decode cX3_addSender 12 = .ok (.aload_n 0, 1) := by decide +kernel
theorem dX3_addSender_13 : decode cX3_addSender 13 = .ok (.getfield 20, 3) := by decide +kernel
theorem dX3_addSender_16 : decode cX3_addSender 16 = .ok (.iload_n 3, 1) := by decide +kernel
theorem dX3_addSender_17 : decode cX3_addSender 17 = .ok (.iload_n 2, 1) := by decide +kernel
theorem dX3_addSender_18 : decode cX3_addSender 18 = .ok (.iastore, 1) := by decide +kernel
theorem dX3_addSender_19 : decode cX3_addSender 19 = .ok (.aload_n 0, 1) := by decide +kernel
theorem dX3_addSender_20 : decode cX3_addSender 20 = .ok (.iload_n 1, 1) := by decide +kernel
theorem dX3_addSender_21 : decode cX3_addSender 21 = .ok (.iload_n 2, 1) := by decide +kernel
theorem dX3_addSender_22 : decode cX3_addSender 22 = .ok (.invokevirtual 51, 3) := by decide +kernel
theorem dX3_addSender_25 : decode cX3_addSender 25 = .ok (.aload_n 0, 1) := by decide +kernel
theorem dX3_addSender_26 : decode cX3_addSender 26 = .ok (.dup, 1) := by decide +kernel
theorem dX3_addSender_27 : decode cX3_addSender 27 = .ok (.getfield 42, 3) := by decide +kernel
theorem dX3_addSender_30 : decode cX3_addSender 30 = .ok (.iconst 1, 1) := by decide +kernel
theorem dX3_addSender_31 : decode cX3_addSender 31 = .ok (.iadd, 1) := by decide +kernel
theorem dX3_addSender_32 : decode cX3_addSender 32 = .ok (.putfield 42, 3) := by decide +kernel
theorem dX3_addSender_35 : decode cX3_addSender 35 = .ok (.iload_n 3, 1) := by decide +kernel
theorem dX3_addSender_36 : decode cX3_addSender 36 = .ok (.ireturn, 1) := by decide +kernel
theorem dX3_dropSender_0 : decode cX3_dropSender 0 = .ok (.aload_n 0, 1) := by decide +kernel
theorem dX3_dropSender_1 : decode cX3_dropSender 1 = .ok (.dup, 1) := by decide +kernel
theorem dX3_dropSender_2 : decode cX3_dropSender 2 = .ok (.getfield 42, 3) := by decide +kernel
theorem dX3_dropSender_5 : decode cX3_dropSender 5 = .ok (.iconst 1, 1) := by decide +kernel
theorem dX3_dropSender_6 : decode cX3_dropSender 6 = .ok (.isub, 1) := by decide +kernel
theorem dX3_dropSender_7 : decode cX3_dropSender 7 = .ok (.putfield 42, 3) := by decide +kernel
theorem dX3_dropSender_10 : decode cX3_dropSender 10 = .ok (.aload_n 0, 1) := by decide +kernel
theorem dX3_dropSender_11 : decode cX3_dropSender 11 = .ok (.aload_n 0, 1) := by decide +kernel
theorem dX3_dropSender_12 : decode cX3_dropSender 12 = .ok (.getfield 16, 3) := by decide +kernel
theorem dX3_dropSender_15 : decode cX3_dropSender 15 = .ok (.aload_n 0, 1) := by decide +kernel
theorem dX3_dropSender_16 : decode cX3_dropSender 16 = .ok (.getfield 42, 3) := by decide +kernel
theorem dX3_dropSender_19 : decode cX3_dropSender 19 = .ok (.iaload, 1) := by decide +kernel
theorem dX3_dropSender_20 : decode cX3_dropSender 20 = .ok (.aload_n 0, 1) := by decide +kernel
theorem dX3_dropSender_21 : decode cX3_dropSender 21 = .ok (.getfield 35, 3) := by decide +kernel
theorem dX3_dropSender_24 : decode cX3_dropSender 24 = .ok (.getfield 55, 3) := by decide +kernel
theorem dX3_dropSender_27 : decode cX3_dropSender 27 = .ok (.aload_n 0, 1) := by decide +kernel
theorem dX3_dropSender_28 : decode cX3_dropSender 28 = .ok (.getfield 20, 3) := by decide +kernel
theorem dX3_dropSender_31 : decode cX3_dropSender 31 = .ok (.aload_n 0, 1) := by decide +kernel
theorem dX3_dropSender_32 : decode cX3_dropSender 32 = .ok (.getfield 42, 3) := by decide +kernel
theorem dX3_dropSender_35 : decode cX3_dropSender 35 = .ok (.iaload, 1) := by decide +kernel
theorem dX3_dropSender_36 : decode cX3_dropSender 36 = .ok (.isub, 1) := by decide +kernel
theorem dX3_dropSender_37 : decode cX3_dropSender 37 = .ok (.invokevirtual 51, 3) := by decide +kernel
theorem dX3_dropSender_40 : decode cX3_dropSender 40 = .ok (.aload_n 0, 1) := by decide +kernel
theorem dX3_dropSender_41 : decode cX3_dropSender 41 = .ok (.getfield 42, 3) := by decide +kernel
theorem dX3_dropSender_44 : decode cX3_dropSender 44 = .ok (.ireturn, 1) := by decide +kernel
theorem dX3_addWave_0 : decode cX3_addWave 0 = .ok (.iload_n 2, 1) := by decide +kernel
theorem dX3_addWave_1 : decode cX3_addWave 1 = .ok (.istore_n 3, 1) := by decide +kernel
theorem dX3_addWave_2 : decode cX3_addWave 2 = .ok (.iconst 0, 1) := by decide +kernel
theorem dX3_addWave_3 : decode cX3_addWave 3 = .ok (.istore 4, 2) := by decide +kernel
theorem dX3_addWave_5 : decode cX3_addWave 5 = .ok (.iload 4, 2) := by decide +kernel
theorem dX3_addWave_7 : decode cX3_addWave 7 = .ok (.bipush 24, 2) := by decide +kernel
theorem dX3_addWave_9 : decode cX3_addWave 9 = .ok (.if_icmp .ge 43, 3) := by decide +kernel
theorem dX3_addWave_12 : decode cX3_addWave 12 = .ok (.aload_n 0, 1) := by decide +kernel
theorem dX3_addWave_13 : decode cX3_addWave 13 = .ok (.getfield 29, 3) := by decide +kernel
theorem dX3_addWave_16 : decode cX3_addWave 16 = .ok (.iload 4, 2) := by decide +kernel
theorem dX3_addWave_18 : decode cX3_addWave 18 = .ok (.aload_n 0, 1) := by decide +kernel
theorem dX3_addWave_19 : decode cX3_addWave 19 = .ok (.getfield 35, 3) := by decide +kernel
theorem dX3_addWave_22 : decode cX3_addWave 22 = .ok (.aload_n 0, 1) := by decide +kernel
theorem dX3_addWave_23 : decode cX3_addWave 23 = .ok (.getfield 29, 3) := by decide +kernel
theorem dX3_addWave_26 : decode cX3_addWave 26 = .ok (.iload 4, 2) := by decide +kernel
theorem dX3_addWave_28 : decode cX3_addWave 28 = .ok (.iaload, 1) := by decide +kernel
theorem dX3_addWave_29 : decode cX3_addWave 29 = .ok (.iload_n 3, 1) := by decide +kernel
theorem dX3_addWave_30 : decode cX3_addWave 30 = .ok (.iadd, 1) := by decide +kernel
theorem dX3_addWave_31 : decode cX3_addWave 31 = .ok (.invokevirtual 45, 3) := by decide +kernel
theorem dX3_addWave_34 : decode cX3_addWave 34 = .ok (.iastore, 1) := by decide +kernel
theorem dX3_addWave_35 : decode cX3_addWave 35 = .ok (.aload_n 0, 1) := by decide +kernel
theorem dX3_addWave_36 : decode cX3_addWave 36 = .ok (.getfield 35, 3) := by decide +kernel
theorem dX3_addWave_39 : decode cX3_addWave 39 = .ok (.iload_n 3, 1) := by decide +kernel
theorem dX3_addWave_40 : decode cX3_addWave 40 = .ok (.iload_n 1, 1) := by decide +kernel
theorem dX3_addWave_41 : decode cX3_addWave 41 = .ok (.imul, 1) := by decide +kernel
theorem dX3_addWave_42 : decode cX3_addWave 42 = .ok (.invokevirtual 45, 3) := by decide +kernel
theorem dX3_addWave_45 : decode cX3_addWave 45 = .ok (.istore_n 3, 1) := by decide +kernel
theorem dX3_addWave_46 : decode cX3_addWave 46 = .ok (.iinc 4 1, 3) := by decide +kernel
theorem dX3_addWave_49 : decode cX3_addWave 49 = .ok (.goto (-44), 3) := by decide +kernel
theorem dX3_addWave_52 : decode cX3_addWave 52 = .ok (.return_, 1) := by decide +kernel
theorem dX3_hasSilentHearer_0 : decode cX3_hasSilentHearer 0 = .ok (.iconst 0, 1) := by decide +kernel
theorem dX3_hasSilentHearer_1 : decode cX3_hasSilentHearer 1 = .ok (.istore_n 1, 1) := by decide +kernel
theorem dX3_hasSilentHearer_2 : decode cX3_hasSilentHearer 2 = .ok (.iload_n 1, 1) := by decide +kernel
theorem dX3_hasSilentHearer_3 : decode cX3_hasSilentHearer 3 = .ok (.bipush 24, 2) := by decide +kernel
theorem dX3_hasSilentHearer_5 : decode cX3_hasSilentHearer 5 = .ok (.if_icmp .ge 27, 3) := by decide +kernel
theorem dX3_hasSilentHearer_8 : decode cX3_hasSilentHearer 8 = .ok (.aload_n 0, 1) := by decide +kernel
theorem dX3_hasSilentHearer_9 : decode cX3_hasSilentHearer 9 = .ok (.iload_n 1, 1) := by decide +kernel
theorem dX3_hasSilentHearer_10 : decode cX3_hasSilentHearer 10 = .ok (.invokevirtual 58, 3) := by decide +kernel
theorem dX3_hasSilentHearer_13 : decode cX3_hasSilentHearer 13 = .ok (.ifCond .eq 13, 3) := by decide +kernel
theorem dX3_hasSilentHearer_16 : decode cX3_hasSilentHearer 16 = .ok (.aload_n 0, 1) := by decide +kernel
theorem dX3_hasSilentHearer_17 : decode cX3_hasSilentHearer 17 = .ok (.iload_n 1, 1) := by decide +kernel
theorem dX3_hasSilentHearer_18 : decode cX3_hasSilentHearer 18 = .ok (.invokevirtual 62, 3) := by decide +kernel
theorem dX3_hasSilentHearer_21 : decode cX3_hasSilentHearer 21 = .ok (.ifCond .ne 5, 3) := by decide +kernel
theorem dX3_hasSilentHearer_24 : decode cX3_hasSilentHearer 24 = .ok (.iconst 1, 1) := by decide +kernel
theorem dX3_hasSilentHearer_25 : decode cX3_hasSilentHearer 25 = .ok (.ireturn, 1) := by decide +kernel
theorem dX3_hasSilentHearer_26 : decode cX3_hasSilentHearer 26 = .ok (.iinc 1 1, 3) := by decide +kernel
theorem dX3_hasSilentHearer_29 : decode cX3_hasSilentHearer 29 = .ok (.goto (-27), 3) := by decide +kernel
theorem dX3_hasSilentHearer_32 : decode cX3_hasSilentHearer 32 = .ok (.iconst 0, 1) := by decide +kernel
theorem dX3_hasSilentHearer_33 : decode cX3_hasSilentHearer 33 = .ok (.ireturn, 1) := by decide +kernel
theorem dX3_tuneTo_0 : decode cX3_tuneTo 0 = .ok (.iconst 0, 1) := by decide +kernel
theorem dX3_tuneTo_1 : decode cX3_tuneTo 1 = .ok (.istore_n 2, 1) := by decide +kernel
theorem dX3_tuneTo_2 : decode cX3_tuneTo 2 = .ok (.aload_n 0, 1) := by decide +kernel
theorem dX3_tuneTo_3 : decode cX3_tuneTo 3 = .ok (.getfield 20, 3) := by decide +kernel
theorem dX3_tuneTo_6 : decode cX3_tuneTo 6 = .ok (.iload_n 1, 1) := by decide +kernel
theorem dX3_tuneTo_7 : decode cX3_tuneTo 7 = .ok (.iaload, 1) := by decide +kernel
theorem dX3_tuneTo_8 : decode cX3_tuneTo 8 = .ok (.istore_n 3, 1) := by decide +kernel
theorem dX3_tuneTo_9 : decode cX3_tuneTo 9 = .ok (.iconst 0, 1) := by decide +kernel
theorem dX3_tuneTo_10 : decode cX3_tuneTo 10 = .ok (.istore 4, 2) := by decide +kernel
theorem dX3_tuneTo_12 : decode cX3_tuneTo 12 = .ok (.iload 4, 2) := by decide +kernel
theorem dX3_tuneTo_14 : decode cX3_tuneTo 14 = .ok (.bipush 24, 2) := by decide +kernel
theorem dX3_tuneTo_16 : decode cX3_tuneTo 16 = .ok (.if_icmp .ge 82, 3) := by decide +kernel
theorem dX3_tuneTo_19 : decode cX3_tuneTo 19 = .ok (.aload_n 0, 1) := by decide +kernel
theorem dX3_tuneTo_20 : decode cX3_tuneTo 20 = .ok (.iload 4, 2) := by decide +kernel
theorem dX3_tuneTo_22 : decode cX3_tuneTo 22 = .ok (.invokevirtual 58, 3) := by decide +kernel
theorem dX3_tuneTo_25 : decode cX3_tuneTo 25 = .ok (.ifCond .eq 51, 3) := by decide +kernel
theorem dX3_tuneTo_28 : decode cX3_tuneTo 28 = .ok (.aload_n 0, 1) := by decide +kernel
theorem dX3_tuneTo_29 : decode cX3_tuneTo 29 = .ok (.getfield 35, 3) := by decide +kernel
theorem dX3_tuneTo_32 : decode cX3_tuneTo 32 = .ok (.aload_n 0, 1) := by decide +kernel
theorem dX3_tuneTo_33 : decode cX3_tuneTo 33 = .ok (.iload 4, 2) := by decide +kernel
theorem dX3_tuneTo_35 : decode cX3_tuneTo 35 = .ok (.invokevirtual 62, 3) := by decide +kernel
theorem dX3_tuneTo_38 : decode cX3_tuneTo 38 = .ok (.aload_n 0, 1) := by decide +kernel
theorem dX3_tuneTo_39 : decode cX3_tuneTo 39 = .ok (.getfield 35, 3) := by decide +kernel
theorem dX3_tuneTo_42 : decode cX3_tuneTo 42 = .ok (.iload_n 3, 1) := by decide +kernel
theorem dX3_tuneTo_43 : decode cX3_tuneTo 43 = .ok (.invokevirtual 65, 3) := by decide +kernel
theorem dX3_tuneTo_46 : decode cX3_tuneTo 46 = .ok (.imul, 1) := by decide +kernel
theorem dX3_tuneTo_47 : decode cX3_tuneTo 47 = .ok (.invokevirtual 45, 3) := by decide +kernel
theorem dX3_tuneTo_50 : decode cX3_tuneTo 50 = .ok (.istore 5, 2) := by decide +kernel
theorem dX3_tuneTo_52 : decode cX3_tuneTo 52 = .ok (.iload 5, 2) := by decide +kernel
theorem dX3_tuneTo_54 : decode cX3_tuneTo 54 = .ok (.aload_n 0, 1) := by decide +kernel
theorem dX3_tuneTo_55 : decode cX3_tuneTo 55 = .ok (.getfield 23, 3) := by decide +kernel
theorem dX3_tuneTo_58 : decode cX3_tuneTo 58 = .ok (.iload 4, 2) := by decide +kernel
theorem dX3_tuneTo_60 : decode cX3_tuneTo 60 = .ok (.iaload, 1) := by decide +kernel
theorem dX3_tuneTo_61 : decode cX3_tuneTo 61 = .ok (.if_icmp .eq 15, 3) := by decide +kernel
theorem dX3_tuneTo_64 : decode cX3_tuneTo 64 = .ok (.aload_n 0, 1) := by decide +kernel
theorem dX3_tuneTo_65 : decode cX3_tuneTo 65 = .ok (.getfield 23, 3) := by decide +kernel
theorem dX3_tuneTo_68 : decode cX3_tuneTo 68 = .ok (.iload 4, 2) := by decide +kernel
theorem dX3_tuneTo_70 : decode cX3_tuneTo 70 = .ok (.iload 5, 2) := by decide +kernel
theorem dX3_tuneTo_72 : decode cX3_tuneTo 72 = .ok (.iastore, 1) := by decide +kernel
theorem dX3_tuneTo_73 : decode cX3_tuneTo 73 = .ok (.iinc 2 1, 3) := by decide +kernel
theorem dX3_tuneTo_76 : decode cX3_tuneTo 76 = .ok (.aload_n 0, 1) := by decide +kernel
theorem dX3_tuneTo_77 : decode cX3_tuneTo 77 = .ok (.getfield 35, 3) := by decide +kernel
theorem dX3_tuneTo_80 : decode cX3_tuneTo 80 = .ok (.iload_n 3, 1) := by decide +kernel
theorem dX3_tuneTo_81 : decode cX3_tuneTo 81 = .ok (.aload_n 0, 1) := by decide +kernel
theorem dX3_tuneTo_82 : decode cX3_tuneTo 82 = .ok (.getfield 16, 3) := by decide +kernel
theorem dX3_tuneTo_85 : decode cX3_tuneTo 85 = .ok (.iload_n 1, 1) := by decide +kernel
theorem dX3_tuneTo_86 : decode cX3_tuneTo 86 = .ok (.iaload, 1) := by decide +kernel
theorem dX3_tuneTo_87 : decode cX3_tuneTo 87 = .ok (.imul, 1) := by decide +kernel
theorem dX3_tuneTo_88 : decode cX3_tuneTo 88 = .ok (.invokevirtual 45, 3) := by decide +kernel
theorem dX3_tuneTo_91 : decode cX3_tuneTo 91 = .ok (.istore_n 3, 1) := by decide +kernel
theorem dX3_tuneTo_92 : decode cX3_tuneTo 92 = .ok (.iinc 4 1, 3) := by decide +kernel
theorem dX3_tuneTo_95 : decode cX3_tuneTo 95 = .ok (.goto (-83), 3) := by decide +kernel
theorem dX3_tuneTo_98 : decode cX3_tuneTo 98 = .ok (.iload_n 2, 1) := by decide +kernel
theorem dX3_tuneTo_99 : decode cX3_tuneTo 99 = .ok (.ireturn, 1) := by decide +kernel
theorem dX3_twinsInAll_0 : decode cX3_twinsInAll 0 = .ok (.aload_n 0, 1) := by decide +kernel
theorem dX3_twinsInAll_1 : decode cX3_twinsInAll 1 = .ok (.invokevirtual 68, 3) := by decide +kernel
theorem dX3_twinsInAll_4 : decode cX3_twinsInAll 4 = .ok (.iconst 0, 1) := by decide +kernel
theorem dX3_twinsInAll_5 : decode cX3_twinsInAll 5 = .ok (.istore_n 1, 1) := by decide +kernel
theorem dX3_twinsInAll_6 : decode cX3_twinsInAll 6 = .ok (.iconst 1, 1) := by decide +kernel
theorem dX3_twinsInAll_7 : decode cX3_twinsInAll 7 = .ok (.istore_n 2, 1) := by decide +kernel
theorem dX3_twinsInAll_8 : decode cX3_twinsInAll 8 = .ok (.iload_n 2, 1) := by decide +kernel
theorem dX3_twinsInAll_9 : decode cX3_twinsInAll 9 = .ok (.aload_n 0, 1) := by decide +kernel
theorem dX3_twinsInAll_10 : decode cX3_twinsInAll 10 = .ok (.getfield 35, 3) := by decide +kernel
theorem dX3_twinsInAll_13 : decode cX3_twinsInAll 13 = .ok (.getfield 55, 3) := by decide +kernel
theorem dX3_twinsInAll_16 : decode cX3_twinsInAll 16 = .ok (.if_icmp .ge 60, 3) := by decide +kernel
theorem dX3_twinsInAll_19 : decode cX3_twinsInAll 19 = .ok (.iload_n 2, 1) := by decide +kernel
theorem dX3_twinsInAll_20 : decode cX3_twinsInAll 20 = .ok (.bipush 97, 2) := by decide +kernel
theorem dX3_twinsInAll_22 : decode cX3_twinsInAll 22 = .ok (.if_icmp .ge 54, 3) := by decide +kernel
theorem dX3_twinsInAll_25 : decode cX3_twinsInAll 25 = .ok (.iload_n 2, 1) := by decide +kernel
theorem dX3_twinsInAll_26 : decode cX3_twinsInAll 26 = .ok (.iconst 1, 1) := by decide +kernel
theorem dX3_twinsInAll_27 : decode cX3_twinsInAll 27 = .ok (.iadd, 1) := by decide +kernel
theorem dX3_twinsInAll_28 : decode cX3_twinsInAll 28 = .ok (.istore_n 3, 1) := by decide +kernel
theorem dX3_twinsInAll_29 : decode cX3_twinsInAll 29 = .ok (.iload_n 3, 1) := by decide +kernel
theorem dX3_twinsInAll_30 : decode cX3_twinsInAll 30 = .ok (.aload_n 0, 1) := by decide +kernel
theorem dX3_twinsInAll_31 : decode cX3_twinsInAll 31 = .ok (.getfield 35, 3) := by decide +kernel
theorem dX3_twinsInAll_34 : decode cX3_twinsInAll 34 = .ok (.getfield 55, 3) := by decide +kernel
theorem dX3_twinsInAll_37 : decode cX3_twinsInAll 37 = .ok (.if_icmp .ge 33, 3) := by decide +kernel
theorem dX3_twinsInAll_40 : decode cX3_twinsInAll 40 = .ok (.iload_n 3, 1) := by decide +kernel
theorem dX3_twinsInAll_41 : decode cX3_twinsInAll 41 = .ok (.bipush 97, 2) := by decide +kernel
theorem dX3_twinsInAll_43 : decode cX3_twinsInAll 43 = .ok (.if_icmp .ge 27, 3) := by decide +kernel
theorem dX3_twinsInAll_46 : decode cX3_twinsInAll 46 = .ok (.aload_n 0, 1) := by decide +kernel
theorem dX3_twinsInAll_47 : decode cX3_twinsInAll 47 = .ok (.getfield 32, 3) := by decide +kernel
theorem dX3_twinsInAll_50 : decode cX3_twinsInAll 50 = .ok (.iload_n 2, 1) := by decide +kernel
theorem dX3_twinsInAll_51 : decode cX3_twinsInAll 51 = .ok (.iaload, 1) := by decide +kernel
theorem dX3_twinsInAll_52 : decode cX3_twinsInAll 52 = .ok (.aload_n 0, 1) := by decide +kernel
theorem dX3_twinsInAll_53 : decode cX3_twinsInAll 53 = .ok (.getfield 32, 3) := by decide +kernel
theorem dX3_twinsInAll_56 : decode cX3_twinsInAll 56 = .ok (.iload_n 3, 1) := by decide +kernel
theorem dX3_twinsInAll_57 : decode cX3_twinsInAll 57 = .ok (.iaload, 1) := by decide +kernel
theorem dX3_twinsInAll_58 : decode cX3_twinsInAll 58 = .ok (.if_icmp .ne 6, 3) := by decide +kernel
theorem dX3_twinsInAll_61 : decode cX3_twinsInAll 61 = .ok (.iinc 1 1, 3) := by decide +kernel
theorem dX3_twinsInAll_64 : decode cX3_twinsInAll 64 = .ok (.iinc 3 1, 3) := by decide +kernel
theorem dX3_twinsInAll_67 : decode cX3_twinsInAll 67 = .ok (.goto (-38), 3) := by decide +kernel
theorem dX3_twinsInAll_70 : decode cX3_twinsInAll 70 = .ok (.iinc 2 1, 3) := by decide +kernel
theorem dX3_twinsInAll_73 : decode cX3_twinsInAll 73 = .ok (.goto (-65), 3) := by decide +kernel
theorem dX3_twinsInAll_76 : decode cX3_twinsInAll 76 = .ok (.iload_n 1, 1) := by decide +kernel
theorem dX3_twinsInAll_77 : decode cX3_twinsInAll 77 = .ok (.ireturn, 1) := by decide +kernel
theorem dX3_twinAt_0 : decode cX3_twinAt 0 = .ok (.aload_n 0, 1) := by decide +kernel
theorem dX3_twinAt_1 : decode cX3_twinAt 1 = .ok (.invokevirtual 68, 3) := by decide +kernel
theorem dX3_twinAt_4 : decode cX3_twinAt 4 = .ok (.iconst 0, 1) := by decide +kernel
theorem dX3_twinAt_5 : decode cX3_twinAt 5 = .ok (.istore_n 3, 1) := by decide +kernel
theorem dX3_twinAt_6 : decode cX3_twinAt 6 = .ok (.iconst 1, 1) := by decide +kernel
theorem dX3_twinAt_7 : decode cX3_twinAt 7 = .ok (.istore 4, 2) := by decide +kernel
theorem dX3_twinAt_9 : decode cX3_twinAt 9 = .ok (.iload 4, 2) := by decide +kernel
theorem dX3_twinAt_11 : decode cX3_twinAt 11 = .ok (.aload_n 0, 1) := by decide +kernel
theorem dX3_twinAt_12 : decode cX3_twinAt 12 = .ok (.getfield 35, 3) := by decide +kernel
theorem dX3_twinAt_15 : decode cX3_twinAt 15 = .ok (.getfield 55, 3) := by decide +kernel
theorem dX3_twinAt_18 : decode cX3_twinAt 18 = .ok (.if_icmp .ge 84, 3) := by decide +kernel
theorem dX3_twinAt_21 : decode cX3_twinAt 21 = .ok (.iload 4, 2) := by decide +kernel
theorem dX3_twinAt_23 : decode cX3_twinAt 23 = .ok (.bipush 97, 2) := by decide +kernel
theorem dX3_twinAt_25 : decode cX3_twinAt 25 = .ok (.if_icmp .ge 77, 3) := by decide +kernel
theorem dX3_twinAt_28 : decode cX3_twinAt 28 = .ok (.iload 4, 2) := by decide +kernel
theorem dX3_twinAt_30 : decode cX3_twinAt 30 = .ok (.iconst 1, 1) := by decide +kernel
theorem dX3_twinAt_31 : decode cX3_twinAt 31 = .ok (.iadd, 1) := by decide +kernel
theorem dX3_twinAt_32 : decode cX3_twinAt 32 = .ok (.istore 5, 2) := by decide +kernel
theorem dX3_twinAt_34 : decode cX3_twinAt 34 = .ok (.iload 5, 2) := by decide +kernel
theorem dX3_twinAt_36 : decode cX3_twinAt 36 = .ok (.aload_n 0, 1) := by decide +kernel
theorem dX3_twinAt_37 : decode cX3_twinAt 37 = .ok (.getfield 35, 3) := by decide +kernel
theorem dX3_twinAt_40 : decode cX3_twinAt 40 = .ok (.getfield 55, 3) := by decide +kernel
theorem dX3_twinAt_43 : decode cX3_twinAt 43 = .ok (.if_icmp .ge 53, 3) := by decide +kernel
theorem dX3_twinAt_46 : decode cX3_twinAt 46 = .ok (.iload 5, 2) := by decide +kernel
theorem dX3_twinAt_48 : decode cX3_twinAt 48 = .ok (.bipush 97, 2) := by decide +kernel
theorem dX3_twinAt_50 : decode cX3_twinAt 50 = .ok (.if_icmp .ge 46, 3) := by decide +kernel
theorem dX3_twinAt_53 : decode cX3_twinAt 53 = .ok (.aload_n 0, 1) := by decide +kernel
theorem dX3_twinAt_54 : decode cX3_twinAt 54 = .ok (.getfield 32, 3) := by decide +kernel
theorem dX3_twinAt_57 : decode cX3_twinAt 57 = .ok (.iload 4, 2) := by decide +kernel
theorem dX3_twinAt_59 : decode cX3_twinAt 59 = .ok (.iaload, 1) := by decide +kernel
theorem dX3_twinAt_60 : decode cX3_twinAt 60 = .ok (.aload_n 0, 1) := by decide +kernel
theorem dX3_twinAt_61 : decode cX3_twinAt 61 = .ok (.getfield 32, 3) := by decide +kernel
theorem dX3_twinAt_64 : decode cX3_twinAt 64 = .ok (.iload 5, 2) := by decide +kernel
theorem dX3_twinAt_66 : decode cX3_twinAt 66 = .ok (.iaload, 1) := by decide +kernel
theorem dX3_twinAt_67 : decode cX3_twinAt 67 = .ok (.if_icmp .ne 23, 3) := by decide +kernel
theorem dX3_twinAt_70 : decode cX3_twinAt 70 = .ok (.iload_n 3, 1) := by decide +kernel
theorem dX3_twinAt_71 : decode cX3_twinAt 71 = .ok (.iload_n 1, 1) := by decide +kernel
theorem dX3_twinAt_72 : decode cX3_twinAt 72 = .ok (.if_icmp .ne 15, 3) := by decide +kernel
theorem dX3_twinAt_75 : decode cX3_twinAt 75 = .ok (.iload_n 2, 1) := by decide +kernel
theorem dX3_twinAt_76 : decode cX3_twinAt 76 = .ok (.ifCond .ne 8, 3) := by decide +kernel
theorem dX3_twinAt_79 : decode cX3_twinAt 79 = .ok (.iload 4, 2) := by decide +kernel
theorem dX3_twinAt_81 : decode cX3_twinAt 81 = .ok (.goto 5, 3) := by decide +kernel
theorem dX3_twinAt_84 : decode cX3_twinAt 84 = .ok (.iload 5, 2) := by decide +kernel
theorem dX3_twinAt_86 : decode cX3_twinAt 86 = .ok (.ireturn, 1) := by decide +kernel
theorem dX3_twinAt_87 : decode cX3_twinAt 87 = .ok (.iinc 3 1, 3) := by decide +kernel
theorem dX3_twinAt_90 : decode cX3_twinAt 90 = .ok (.iinc 5 1, 3) := by decide +kernel
theorem dX3_twinAt_93 : decode cX3_twinAt 93 = .ok (.goto (-59), 3) := by decide +kernel
theorem dX3_twinAt_96 : decode cX3_twinAt 96 = .ok (.iinc 4 1, 3) := by decide +kernel
theorem dX3_twinAt_99 : decode cX3_twinAt 99 = .ok (.goto (-90), 3) := by decide +kernel
theorem dX3_twinAt_102 : decode cX3_twinAt 102 = .ok (.iconst (-1), 1) := by decide +kernel
theorem dX3_twinAt_103 : decode cX3_twinAt 103 = .ok (.ireturn, 1) := by decide +kernel
theorem dX3_makeImages_0 : decode cX3_makeImages 0 = .ok (.aload_n 0, 1) := by decide +kernel
theorem dX3_makeImages_1 : decode cX3_makeImages 1 = .ok (.invokevirtual 71, 3) := by decide +kernel
theorem dX3_makeImages_4 : decode cX3_makeImages 4 = .ok (.istore_n 1, 1) := by decide +kernel
theorem dX3_makeImages_5 : decode cX3_makeImages 5 = .ok (.iconst 1, 1) := by decide +kernel
theorem dX3_makeImages_6 : decode cX3_makeImages 6 = .ok (.istore_n 2, 1) := by decide +kernel
theorem dX3_makeImages_7 : decode cX3_makeImages 7 = .ok (.iload_n 2, 1) := by decide +kernel
theorem dX3_makeImages_8 : decode cX3_makeImages 8 = .ok (.aload_n 0, 1) := by decide +kernel
theorem dX3_makeImages_9 : decode cX3_makeImages 9 = .ok (.getfield 35, 3) := by decide +kernel
theorem dX3_makeImages_12 : decode cX3_makeImages 12 = .ok (.getfield 55, 3) := by decide +kernel
theorem dX3_makeImages_15 : decode cX3_makeImages 15 = .ok (.if_icmp .ge 30, 3) := by decide +kernel
theorem dX3_makeImages_18 : decode cX3_makeImages 18 = .ok (.iload_n 2, 1) := by decide +kernel
theorem dX3_makeImages_19 : decode cX3_makeImages 19 = .ok (.bipush 97, 2) := by decide +kernel
theorem dX3_makeImages_21 : decode cX3_makeImages 21 = .ok (.if_icmp .ge 24, 3) := by decide +kernel
theorem dX3_makeImages_24 : decode cX3_makeImages 24 = .ok (.aload_n 0, 1) := by decide +kernel
theorem dX3_makeImages_25 : decode cX3_makeImages 25 = .ok (.getfield 32, 3) := by decide +kernel
theorem dX3_makeImages_28 : decode cX3_makeImages 28 = .ok (.iload_n 2, 1) := by decide +kernel
theorem dX3_makeImages_29 : decode cX3_makeImages 29 = .ok (.aload_n 0, 1) := by decide +kernel
theorem dX3_makeImages_30 : decode cX3_makeImages 30 = .ok (.getfield 35, 3) := by decide +kernel
theorem dX3_makeImages_33 : decode cX3_makeImages 33 = .ok (.iload_n 2, 1) := by decide +kernel
theorem dX3_makeImages_34 : decode cX3_makeImages 34 = .ok (.iload_n 1, 1) := by decide +kernel
theorem dX3_makeImages_35 : decode cX3_makeImages 35 = .ok (.invokevirtual 75, 3) := by decide +kernel
theorem dX3_makeImages_38 : decode cX3_makeImages 38 = .ok (.iastore, 1) := by decide +kernel
theorem dX3_makeImages_39 : decode cX3_makeImages 39 = .ok (.iinc 2 1, 3) := by decide +kernel
theorem dX3_makeImages_42 : decode cX3_makeImages 42 = .ok (.goto (-35), 3) := by decide +kernel
theorem dX3_makeImages_45 : decode cX3_makeImages 45 = .ok (.return_, 1) := by decide +kernel
theorem dX3_spacing_0 : decode cX3_spacing 0 = .ok (.lconst 0, 1) := by decide +kernel
theorem dX3_spacing_1 : decode cX3_spacing 1 = .ok (.lstore_n 1, 1) := by decide +kernel
theorem dX3_spacing_2 : decode cX3_spacing 2 = .ok (.iconst (-1), 1) := by decide +kernel
theorem dX3_spacing_3 : decode cX3_spacing 3 = .ok (.istore_n 3, 1) := by decide +kernel
theorem dX3_spacing_4 : decode cX3_spacing 4 = .ok (.iconst 0, 1) := by decide +kernel
theorem dX3_spacing_5 : decode cX3_spacing 5 = .ok (.istore 4, 2) := by decide +kernel
theorem dX3_spacing_7 : decode cX3_spacing 7 = .ok (.iload 4, 2) := by decide +kernel
theorem dX3_spacing_9 : decode cX3_spacing 9 = .ok (.bipush 24, 2) := by decide +kernel
theorem dX3_spacing_11 : decode cX3_spacing 11 = .ok (.if_icmp .ge 36, 3) := by decide +kernel
theorem dX3_spacing_14 : decode cX3_spacing 14 = .ok (.aload_n 0, 1) := by decide +kernel
theorem dX3_spacing_15 : decode cX3_spacing 15 = .ok (.iload 4, 2) := by decide +kernel
theorem dX3_spacing_17 : decode cX3_spacing 17 = .ok (.invokevirtual 58, 3) := by decide +kernel
theorem dX3_spacing_20 : decode cX3_spacing 20 = .ok (.ifCond .eq 21, 3) := by decide +kernel
theorem dX3_spacing_23 : decode cX3_spacing 23 = .ok (.iload_n 3, 1) := by decide +kernel
theorem dX3_spacing_24 : decode cX3_spacing 24 = .ok (.iconst (-1), 1) := by decide +kernel
theorem dX3_spacing_25 : decode cX3_spacing 25 = .ok (.if_icmp .eq 13, 3) := by decide +kernel
theorem dX3_spacing_28 : decode cX3_spacing 28 = .ok (.iload 4, 2) := by decide +kernel
theorem dX3_spacing_30 : decode cX3_spacing 30 = .ok (.iload_n 3, 1) := by decide +kernel
theorem dX3_spacing_31 : decode cX3_spacing 31 = .ok (.isub, 1) := by decide +kernel
theorem dX3_spacing_32 : decode cX3_spacing 32 = .ok (.i2l, 1) := by decide +kernel
theorem dX3_spacing_33 : decode cX3_spacing 33 = .ok (.lload_n 1, 1) := by decide +kernel
theorem dX3_spacing_34 : decode cX3_spacing 34 = .ok (.invokestatic 79, 3) := by decide +kernel
theorem dX3_spacing_37 : decode cX3_spacing 37 = .ok (.lstore_n 1, 1) := by decide +kernel
theorem dX3_spacing_38 : decode cX3_spacing 38 = .ok (.iload 4, 2) := by decide +kernel
theorem dX3_spacing_40 : decode cX3_spacing 40 = .ok (.istore_n 3, 1) := by decide +kernel
theorem dX3_spacing_41 : decode cX3_spacing 41 = .ok (.iinc 4 1, 3) := by decide +kernel
theorem dX3_spacing_44 : decode cX3_spacing 44 = .ok (.goto (-37), 3) := by decide +kernel
theorem dX3_spacing_47 : decode cX3_spacing 47 = .ok (.lload_n 1, 1) := by decide +kernel
theorem dX3_spacing_48 : decode cX3_spacing 48 = .ok (.l2i, 1) := by decide +kernel
theorem dX3_spacing_49 : decode cX3_spacing 49 = .ok (.ireturn, 1) := by decide +kernel
