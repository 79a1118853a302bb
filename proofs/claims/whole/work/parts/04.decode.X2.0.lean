theorem dX2_init_0 : decode cX2_init 0 = .ok (.aload_n 0, 1) := by decide +kernel
theorem dX2_init_1 : decode cX2_init 1 = .ok (.invokespecial 3, 3) := by decide +kernel
theorem dX2_init_4 : decode cX2_init 4 = .ok (.aload_n 0, 1) := by decide +kernel
theorem dX2_init_5 : decode cX2_init 5 = .ok (.bipush 97, 2) := by decide +kernel
theorem dX2_init_7 : decode cX2_init 7 = .ok (.newarray .int, 2) := by decide +kernel
theorem dX2_init_9 : decode cX2_init 9 = .ok (.putfield 9, 3) := by decide +kernel
theorem dX2_init_12 : decode cX2_init 12 = .ok (.aload_n 0, 1) := by decide +kernel
theorem dX2_init_13 : decode cX2_init 13 = .ok (.bipush 31, 2) := by decide +kernel
theorem dX2_init_15 : decode cX2_init 15 = .ok (.invokevirtual 15, 3) := by decide +kernel
theorem dX2_init_18 : decode cX2_init 18 = .ok (.return_, 1) := by decide +kernel
theorem dX2_canBePrime_0 : decode cX2_canBePrime 0 = .ok (.iload_n 0, 1) := by decide +kernel
theorem dX2_canBePrime_1 : decode cX2_canBePrime 1 = .ok (.iconst 5, 1) := by decide +kernel
theorem dX2_canBePrime_2 : decode cX2_canBePrime 2 = .ok (.if_icmp .lt 9, 3) := by decide +kernel
theorem dX2_canBePrime_5 : decode cX2_canBePrime 5 = .ok (.iload_n 0, 1) := by decide +kernel
theorem dX2_canBePrime_6 : decode cX2_canBePrime 6 = .ok (.bipush 97, 2) := by decide +kernel
theorem dX2_canBePrime_8 : decode cX2_canBePrime 8 = .ok (.if_icmp .le 5, 3) := by decide +kernel
theorem dX2_canBePrime_11 : decode cX2_canBePrime 11 = .ok (.iconst 0, 1) := by decide +kernel
theorem dX2_canBePrime_12 : decode cX2_canBePrime 12 = .ok (.ireturn, 1) := by decide +kernel
theorem dX2_canBePrime_13 : decode cX2_canBePrime 13 = .ok (.iconst 2, 1) := by decide +kernel
theorem dX2_canBePrime_14 : decode cX2_canBePrime 14 = .ok (.istore_n 1, 1) := by decide +kernel
theorem dX2_canBePrime_15 : decode cX2_canBePrime 15 = .ok (.iload_n 1, 1) := by decide +kernel
theorem dX2_canBePrime_16 : decode cX2_canBePrime 16 = .ok (.iload_n 1, 1) := by decide +kernel
theorem dX2_canBePrime_17 : decode cX2_canBePrime 17 = .ok (.imul, 1) := by decide +kernel
theorem dX2_canBePrime_18 : decode cX2_canBePrime 18 = .ok (.iload_n 0, 1) := by decide +kernel
theorem dX2_canBePrime_19 : decode cX2_canBePrime 19 = .ok (.if_icmp .gt 17, 3) := by decide +kernel
theorem dX2_canBePrime_22 : decode cX2_canBePrime 22 = .ok (.iload_n 0, 1) := by decide +kernel
theorem dX2_canBePrime_23 : decode cX2_canBePrime 23 = .ok (.iload_n 1, 1) := by decide +kernel
theorem dX2_canBePrime_24 : decode cX2_canBePrime 24 = .ok (.irem, 1) := by decide +kernel
theorem dX2_canBePrime_25 : decode cX2_canBePrime 25 = .ok (.ifCond .ne 5, 3) := by decide +kernel
theorem dX2_canBePrime_28 : decode cX2_canBePrime 28 = .ok (.iconst 0, 1) := by decide +kernel
theorem dX2_canBePrime_29 : decode cX2_canBePrime 29 = .ok (.ireturn, 1) := by decide +kernel
theorem dX2_canBePrime_30 : decode cX2_canBePrime 30 = .ok (.iinc 1 1, 3) := by decide +kernel
theorem dX2_canBePrime_33 : decode cX2_canBePrime 33 = .ok (.goto (-18), 3) := by decide +kernel
theorem dX2_canBePrime_36 : decode cX2_canBePrime 36 = .ok (.iconst 1, 1) := by decide +kernel
theorem dX2_canBePrime_37 : decode cX2_canBePrime 37 = .ok (.ireturn, 1) := by decide +kernel
theorem dX2_become_0 : decode cX2_become 0 = .ok (.aload_n 0, 1) := by decide +kernel
theorem dX2_become_1 : decode cX2_become 1 = .ok (.iload_n 1, 1) := by decide +kernel
theorem dX2_become_2 : decode cX2_become 2 = .ok (.putfield 19, 3) := by decide +kernel
theorem dX2_become_5 : decode cX2_become 5 = .ok (.aload_n 0, 1) := by decide +kernel
theorem dX2_become_6 : decode cX2_become 6 = .ok (.getfield 9, 3) := by decide +kernel
theorem dX2_become_9 : decode cX2_become 9 = .ok (.iconst 1, 1) := by decide +kernel
theorem dX2_become_10 : decode cX2_become 10 = .ok (.iconst 1, 1) := by decide +kernel
theorem dX2_become_11 : decode cX2_become 11 = .ok (.iastore, 1) := by decide +kernel
theorem dX2_become_12 : decode cX2_become 12 = .ok (.iconst 2, 1) := by decide +kernel
theorem dX2_become_13 : decode cX2_become 13 = .ok (.istore_n 2, 1) := by decide +kernel
theorem dX2_become_14 : decode cX2_become 14 = .ok (.iload_n 2, 1) := by decide +kernel
theorem dX2_become_15 : decode cX2_become 15 = .ok (.iload_n 1, 1) := by decide +kernel
theorem dX2_become_16 : decode cX2_become 16 = .ok (.if_icmp .ge 39, 3) := by decide +kernel
theorem dX2_become_19 : decode cX2_become 19 = .ok (.iload_n 2, 1) := by decide +kernel
theorem dX2_become_20 : decode cX2_become 20 = .ok (.bipush 97, 2) := by decide +kernel
theorem dX2_become_22 : decode cX2_become 22 = .ok (.if_icmp .ge 33, 3) := by decide +kernel
theorem dX2_become_25 : decode cX2_become 25 = .ok (.aload_n 0, 1) := by decide +kernel
theorem dX2_become_26 : decode cX2_become 26 = .ok (.getfield 9, 3) := by decide +kernel
theorem dX2_become_29 : decode cX2_become 29 = .ok (.iload_n 2, 1) := by decide +kernel
theorem dX2_become_30 : decode cX2_become 30 = .ok (.aload_n 0, 1) := by decide +kernel
theorem dX2_become_31 : decode cX2_become 31 = .ok (.iload_n 1, 1) := by decide +kernel
theorem dX2_become_32 : decode cX2_become 32 = .ok (.iload_n 1, 1) := by decide +kernel
theorem dX2_become_33 : decode cX2_become 33 = .ok (.iload_n 2, 1) := by decide +kernel
theorem dX2_become_34 : decode cX2_become 34 = .ok (.idiv, 1) := by decide +kernel
theorem dX2_become_35 : decode cX2_become 35 = .ok (.isub, 1) := by decide +kernel
theorem dX2_become_36 : decode cX2_become 36 = .ok (.aload_n 0, 1) := by decide +kernel
theorem dX2_become_37 : decode cX2_become 37 = .ok (.getfield 9, 3) := by decide +kernel
theorem dX2_become_40 : decode cX2_become 40 = .ok (.iload_n 1, 1) := by decide +kernel
theorem dX2_become_41 : decode cX2_become 41 = .ok (.iload_n 2, 1) := by decide +kernel
theorem dX2_become_42 : decode cX2_become 42 = .ok (.irem, 1) := by decide +kernel
theorem dX2_become_43 : decode cX2_become 43 = .ok (.iaload, 1) := by decide +kernel
theorem dX2_become_44 : decode cX2_become 44 = .ok (.imul, 1) := by decide +kernel
theorem dX2_become_45 : decode cX2_become 45 = .ok (.invokevirtual 23, 3) := by decide +kernel
theorem dX2_become_48 : decode cX2_become 48 = .ok (.iastore, 1) := by decide +kernel
theorem dX2_become_49 : decode cX2_become 49 = .ok (.iinc 2 1, 3) := by decide +kernel
theorem dX2_become_52 : decode cX2_become 52 = .ok (.goto (-38), 3) := by decide +kernel
theorem dX2_become_55 : decode cX2_become 55 = .ok (.return_, 1) := by decide +kernel
theorem dX2_of_0 : decode cX2_of 0 = .ok (.aload_n 0, 1) := by decide +kernel
theorem dX2_of_1 : decode cX2_of 1 = .ok (.getfield 19, 3) := by decide +kernel
theorem dX2_of_4 : decode cX2_of 4 = .ok (.iconst 5, 1) := by decide +kernel
theorem dX2_of_5 : decode cX2_of 5 = .ok (.if_icmp .ge 7, 3) := by decide +kernel
theorem dX2_of_8 : decode cX2_of 8 = .ok (.iconst 0, 1) := by decide +kernel
theorem dX2_of_9 : decode cX2_of 9 = .ok (.goto 9, 3) := by decide +kernel
theorem dX2_of_12 : decode cX2_of 12 = .ok (.iload_n 1, 1) := by decide +kernel
theorem dX2_of_13 : decode cX2_of 13 = .ok (.aload_n 0, 1) := by decide +kernel
theorem dX2_of_14 : decode cX2_of 14 = .ok (.getfield 19, 3) := by decide +kernel
theorem dX2_of_17 : decode cX2_of 17 = .ok (.irem, 1) := by decide +kernel
theorem dX2_of_18 : decode cX2_of 18 = .ok (.ireturn, 1) := by decide +kernel
theorem dX2_isFactor_0 : decode cX2_isFactor 0 = .ok (.iload_n 1, 1) := by decide +kernel
theorem dX2_isFactor_1 : decode cX2_isFactor 1 = .ok (.iconst 1, 1) := by decide +kernel
theorem dX2_isFactor_2 : decode cX2_isFactor 2 = .ok (.if_icmp .lt 15, 3) := by decide +kernel
theorem dX2_isFactor_5 : decode cX2_isFactor 5 = .ok (.iload_n 1, 1) := by decide +kernel
theorem dX2_isFactor_6 : decode cX2_isFactor 6 = .ok (.aload_n 0, 1) := by decide +kernel
theorem dX2_isFactor_7 : decode cX2_isFactor 7 = .ok (.getfield 19, 3) := by decide +kernel
theorem dX2_isFactor_10 : decode cX2_isFactor 10 = .ok (.if_icmp .ge 7, 3) := by decide +kernel
theorem dX2_isFactor_13 : decode cX2_isFactor 13 = .ok (.iconst 1, 1) := by decide +kernel
theorem dX2_isFactor_14 : decode cX2_isFactor 14 = .ok (.goto 4, 3) := by decide +kernel
theorem dX2_isFactor_17 : decode cX2_isFactor 17 = .ok (.iconst 0, 1) := by decide +kernel
theorem dX2_isFactor_18 : decode cX2_isFactor 18 = .ok (.ireturn, 1) := by decide +kernel
theorem dX2_inverse_0 : decode cX2_inverse 0 = .ok (.aload_n 0, 1) := by decide +kernel
theorem dX2_inverse_1 : decode cX2_inverse 1 = .ok (.iload_n 1, 1) := by decide +kernel
theorem dX2_inverse_2 : decode cX2_inverse 2 = .ok (.invokevirtual 27, 3) := by decide +kernel
theorem dX2_inverse_5 : decode cX2_inverse 5 = .ok (.ifCond .eq 12, 3) := by decide +kernel
theorem dX2_inverse_8 : decode cX2_inverse 8 = .ok (.aload_n 0, 1) := by decide +kernel
theorem dX2_inverse_9 : decode cX2_inverse 9 = .ok (.getfield 9, 3) := by decide +kernel
theorem dX2_inverse_12 : decode cX2_inverse 12 = .ok (.iload_n 1, 1) := by decide +kernel
theorem dX2_inverse_13 : decode cX2_inverse 13 = .ok (.iaload, 1) := by decide +kernel
theorem dX2_inverse_14 : decode cX2_inverse 14 = .ok (.goto 4, 3) := by decide +kernel
theorem dX2_inverse_17 : decode cX2_inverse 17 = .ok (.iconst 0, 1) := by decide +kernel
theorem dX2_inverse_18 : decode cX2_inverse 18 = .ok (.ireturn, 1) := by decide +kernel
theorem dX2_power_0 : decode cX2_power 0 = .ok (.iconst 1, 1) := by decide +kernel
theorem dX2_power_1 : decode cX2_power 1 = .ok (.istore_n 3, 1) := by decide +kernel
theorem dX2_power_2 : decode cX2_power 2 = .ok (.iconst 0, 1) := by decide +kernel
theorem dX2_power_3 : decode cX2_power 3 = .ok (.istore 4, 2) := by decide +kernel
theorem dX2_power_5 : decode cX2_power 5 = .ok (.iload 4, 2) := by decide +kernel
theorem dX2_power_7 : decode cX2_power 7 = .ok (.iload_n 2, 1) := by decide +kernel
theorem dX2_power_8 : decode cX2_power 8 = .ok (.if_icmp .ge 17, 3) := by decide +kernel
theorem dX2_power_11 : decode cX2_power 11 = .ok (.aload_n 0, 1) := by decide +kernel
theorem dX2_power_12 : decode cX2_power 12 = .ok (.iload_n 3, 1) := by decide +kernel
theorem dX2_power_13 : decode cX2_power 13 = .ok (.iload_n 1, 1) := by decide +kernel
theorem dX2_power_14 : decode cX2_power 14 = .ok (.imul, 1) := by decide +kernel
theorem dX2_power_15 : decode cX2_power 15 = .ok (.invokevirtual 23, 3) := by decide +kernel
theorem dX2_power_18 : decode cX2_power 18 = .ok (.istore_n 3, 1) := by decide +kernel
theorem dX2_power_19 : decode cX2_power 19 = .ok (.iinc 4 1, 3) := by decide +kernel
theorem dX2_power_22 : decode cX2_power 22 = .ok (.goto (-17), 3) := by decide +kernel
theorem dX2_power_25 : decode cX2_power 25 = .ok (.iload_n 3, 1) := by decide +kernel
theorem dX2_power_26 : decode cX2_power 26 = .ok (.ireturn, 1) := by decide +kernel
