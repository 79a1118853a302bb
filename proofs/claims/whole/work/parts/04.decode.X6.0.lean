theorem dX6_init_0 : decode cX6_init 0 = .ok (.aload_n 0, 1) := by decide +kernel
theorem dX6_init_1 : decode cX6_init 1 = .ok (.invokespecial 1, 3) := by decide +kernel
theorem dX6_init_4 : decode cX6_init 4 = .ok (.aload_n 0, 1) := by decide +kernel
theorem dX6_init_5 : decode cX6_init 5 = .ok (.bipush 31, 2) := by decide +kernel
theorem dX6_init_7 : decode cX6_init 7 = .ok (.putfield 7, 3) := by decide +kernel
theorem dX6_init_10 : decode cX6_init 10 = .ok (.aload_n 0, 1) := by decide +kernel
theorem dX6_init_11 : decode cX6_init 11 = .ok (.ldc 13, 2) := by decide +kernel
theorem dX6_init_13 : decode cX6_init 13 = .ok (.putfield 14, 3) := by decide +kernel
theorem dX6_init_16 : decode cX6_init 16 = .ok (.aload_n 0, 1) := by decide +kernel
theorem dX6_init_17 : decode cX6_init 17 = .ok (.bipush 8, 2) := by decide +kernel
theorem dX6_init_19 : decode cX6_init 19 = .ok (.newarray .int, 2) := by decide +kernel
theorem dX6_init_21 : decode cX6_init 21 = .ok (.putfield 17, 3) := by decide +kernel
theorem dX6_init_24 : decode cX6_init 24 = .ok (.aload_n 0, 1) := by decide +kernel
theorem dX6_init_25 : decode cX6_init 25 = .ok (.bipush 8, 2) := by decide +kernel
theorem dX6_init_27 : decode cX6_init 27 = .ok (.newarray .int, 2) := by decide +kernel
theorem dX6_init_29 : decode cX6_init 29 = .ok (.putfield 21, 3) := by decide +kernel
theorem dX6_init_32 : decode cX6_init 32 = .ok (.aload_n 0, 1) := by decide +kernel
theorem dX6_init_33 : decode cX6_init 33 = .ok (.bipush 24, 2) := by decide +kernel
theorem dX6_init_35 : decode cX6_init 35 = .ok (.newarray .int, 2) := by decide +kernel
theorem dX6_init_37 : decode cX6_init 37 = .ok (.putfield 24, 3) := by decide +kernel
theorem dX6_init_40 : decode cX6_init 40 = .ok (.aload_n 0, 1) := by decide +kernel
theorem dX6_init_41 : decode cX6_init 41 = .ok (.bipush 24, 2) := by decide +kernel
theorem dX6_init_43 : decode cX6_init 43 = .ok (.newarray .int, 2) := by decide +kernel
theorem dX6_init_45 : decode cX6_init 45 = .ok (.putfield 27, 3) := by decide +kernel
theorem dX6_init_48 : decode cX6_init 48 = .ok (.aload_n 0, 1) := by decide +kernel
theorem dX6_init_49 : decode cX6_init 49 = .ok (.bipush 6, 2) := by decide +kernel
theorem dX6_init_51 : decode cX6_init 51 = .ok (.newarray .long, 2) := by decide +kernel
theorem dX6_init_53 : decode cX6_init 53 = .ok (.putfield 30, 3) := by decide +kernel
theorem dX6_init_56 : decode cX6_init 56 = .ok (.aload_n 0, 1) := by decide +kernel
theorem dX6_init_57 : decode cX6_init 57 = .ok (.bipush 6, 2) := by decide +kernel
theorem dX6_init_59 : decode cX6_init 59 = .ok (.newarray .long, 2) := by decide +kernel
theorem dX6_init_61 : decode cX6_init 61 = .ok (.putfield 34, 3) := by decide +kernel
theorem dX6_init_64 : decode cX6_init 64 = .ok (.aload_n 0, 1) := by decide +kernel
theorem dX6_init_65 : decode cX6_init 65 = .ok (.bipush 6, 2) := by decide +kernel
theorem dX6_init_67 : decode cX6_init 67 = .ok (.newarray .long, 2) := by decide +kernel
theorem dX6_init_69 : decode cX6_init 69 = .ok (.putfield 37, 3) := by decide +kernel
theorem dX6_init_72 : decode cX6_init 72 = .ok (.aload_n 0, 1) := by decide +kernel
theorem dX6_init_73 : decode cX6_init 73 = .ok (.bipush 6, 2) := by decide +kernel
theorem dX6_init_75 : decode cX6_init 75 = .ok (.newarray .long, 2) := by decide +kernel
theorem dX6_init_77 : decode cX6_init 77 = .ok (.putfield 40, 3) := by decide +kernel
theorem dX6_init_80 : decode cX6_init 80 = .ok (.aload_n 0, 1) := by decide +kernel
theorem dX6_init_81 : decode cX6_init 81 = .ok (.bipush 24, 2) := by decide +kernel
theorem dX6_init_83 : decode cX6_init 83 = .ok (.newarray .int, 2) := by decide +kernel
theorem dX6_init_85 : decode cX6_init 85 = .ok (.putfield 43, 3) := by decide +kernel
theorem dX6_init_88 : decode cX6_init 88 = .ok (.aload_n 0, 1) := by decide +kernel
theorem dX6_init_89 : decode cX6_init 89 = .ok (.bipush 25, 2) := by decide +kernel
theorem dX6_init_91 : decode cX6_init 91 = .ok (.newarray .int, 2) := by decide +kernel
theorem dX6_init_93 : decode cX6_init 93 = .ok (.putfield 46, 3) := by decide +kernel
theorem dX6_init_96 : decode cX6_init 96 = .ok (.aload_n 0, 1) := by decide +kernel
theorem dX6_init_97 : decode cX6_init 97 = .ok (.sipush 650, 3) := by decide +kernel
theorem dX6_init_100 : decode cX6_init 100 = .ok (.newarray .int, 2) := by decide +kernel
theorem dX6_init_102 : decode cX6_init 102 = .ok (.putfield 49, 3) := by decide +kernel
theorem dX6_init_105 : decode cX6_init 105 = .ok (.aload_n 0, 1) := by decide +kernel
theorem dX6_init_106 : decode cX6_init 106 = .ok (.bipush 24, 2) := by decide +kernel
theorem dX6_init_108 : decode cX6_init 108 = .ok (.newarray .int, 2) := by decide +kernel
theorem dX6_init_110 : decode cX6_init 110 = .ok (.putfield 52, 3) := by decide +kernel
theorem dX6_init_113 : decode cX6_init 113 = .ok (.aload_n 0, 1) := by decide +kernel
theorem dX6_init_114 : decode cX6_init 114 = .ok (.invokevirtual 55, 3) := by decide +kernel
theorem dX6_init_117 : decode cX6_init 117 = .ok (.return_, 1) := by decide +kernel
theorem dX6_clear_0 : decode cX6_clear 0 = .ok (.aload_n 0, 1) := by decide +kernel
theorem dX6_clear_1 : decode cX6_clear 1 = .ok (.iconst 0, 1) := by decide +kernel
theorem dX6_clear_2 : decode cX6_clear 2 = .ok (.putfield 58, 3) := by decide +kernel
theorem dX6_clear_5 : decode cX6_clear 5 = .ok (.iconst 0, 1) := by decide +kernel
theorem dX6_clear_6 : decode cX6_clear 6 = .ok (.istore_n 1, 1) := by decide +kernel
theorem dX6_clear_7 : decode cX6_clear 7 = .ok (.iload_n 1, 1) := by decide +kernel
theorem dX6_clear_8 : decode cX6_clear 8 = .ok (.bipush 24, 2) := by decide +kernel
theorem dX6_clear_10 : decode cX6_clear 10 = .ok (.if_icmp .ge 23, 3) := by decide +kernel
theorem dX6_clear_13 : decode cX6_clear 13 = .ok (.aload_n 0, 1) := by decide +kernel
theorem dX6_clear_14 : decode cX6_clear 14 = .ok (.getfield 24, 3) := by decide +kernel
theorem dX6_clear_17 : decode cX6_clear 17 = .ok (.iload_n 1, 1) := by decide +kernel
theorem dX6_clear_18 : decode cX6_clear 18 = .ok (.iconst 1, 1) := by decide +kernel
theorem dX6_clear_19 : decode cX6_clear 19 = .ok (.iastore, 1) := by decide +kernel
theorem dX6_clear_20 : decode cX6_clear 20 = .ok (.aload_n 0, 1) := by decide +kernel
theorem dX6_clear_21 : decode cX6_clear 21 = .ok (.getfield 27, 3) := by decide +kernel
theorem dX6_clear_24 : decode cX6_clear 24 = .ok (.iload_n 1, 1) := by decide +kernel
theorem dX6_clear_25 : decode cX6_clear 25 = .ok (.iconst (-1), 1) := by decide +kernel
theorem dX6_clear_26 : decode cX6_clear 26 = .ok (.iastore, 1) := by decide +kernel
theorem dX6_clear_27 : decode cX6_clear 27 = .ok (.iinc 1 1, 3) := by decide +kernel
theorem dX6_clear_30 : decode cX6_clear 30 = .ok (.goto (-23), 3) := by decide +kernel
theorem dX6_clear_33 : decode cX6_clear 33 = .ok (.return_, 1) := by decide +kernel
theorem dX6_in_0 : decode cX6_in 0 = .ok (.lload_n 0, 1) := by decide +kernel
theorem dX6_in_1 : decode cX6_in 1 = .ok (.lload_n 2, 1) := by decide +kernel
theorem dX6_in_2 : decode cX6_in 2 = .ok (.lcmp, 1) := by decide +kernel
theorem dX6_in_3 : decode cX6_in 3 = .ok (.ifCond .lt 14, 3) := by decide +kernel
theorem dX6_in_6 : decode cX6_in 6 = .ok (.lload_n 0, 1) := by decide +kernel
theorem dX6_in_7 : decode cX6_in 7 = .ok (.lload 4, 2) := by decide +kernel
theorem dX6_in_9 : decode cX6_in 9 = .ok (.lcmp, 1) := by decide +kernel
theorem dX6_in_10 : decode cX6_in 10 = .ok (.ifCond .gt 7, 3) := by decide +kernel
theorem dX6_in_13 : decode cX6_in 13 = .ok (.iconst 1, 1) := by decide +kernel
theorem dX6_in_14 : decode cX6_in 14 = .ok (.goto 4, 3) := by decide +kernel
theorem dX6_in_17 : decode cX6_in 17 = .ok (.iconst 0, 1) := by decide +kernel
theorem dX6_in_18 : decode cX6_in 18 = .ok (.ireturn, 1) := by decide +kernel
theorem dX6_isPrime_0 : decode cX6_isPrime 0 = .ok (.iload_n 0, 1) := by decide +kernel
theorem dX6_isPrime_1 : decode cX6_isPrime 1 = .ok (.iconst 1, 1) := by decide +kernel
theorem dX6_isPrime_2 : decode cX6_isPrime 2 = .ok (.if_icmp .le 7, 3) := by decide +kernel
theorem dX6_isPrime_5 : decode cX6_isPrime 5 = .ok (.iconst 1, 1) := by decide +kernel
theorem dX6_isPrime_6 : decode cX6_isPrime 6 = .ok (.goto 4, 3) := by decide +kernel
theorem dX6_isPrime_9 : decode cX6_isPrime 9 = .ok (.iconst 0, 1) := by decide +kernel
theorem dX6_isPrime_10 : decode cX6_isPrime 10 = .ok (.istore_n 1, 1) := by decide +kernel
theorem dX6_isPrime_11 : decode cX6_isPrime 11 = .ok (.iconst 2, 1) := by decide +kernel
theorem dX6_isPrime_12 : decode cX6_isPrime 12 = .ok (.istore_n 2, 1) := by decide +kernel
theorem dX6_isPrime_13 : decode cX6_isPrime 13 = .ok (.iload_n 2, 1) := by decide +kernel
theorem dX6_isPrime_14 : decode cX6_isPrime 14 = .ok (.iload_n 0, 1) := by decide +kernel
theorem dX6_isPrime_15 : decode cX6_isPrime 15 = .ok (.if_icmp .ge 25, 3) := by decide +kernel
theorem dX6_isPrime_18 : decode cX6_isPrime 18 = .ok (.iload_n 1, 1) := by decide +kernel
theorem dX6_isPrime_19 : decode cX6_isPrime 19 = .ok (.ifCond .eq 13, 3) := by decide +kernel
theorem dX6_isPrime_22 : decode cX6_isPrime 22 = .ok (.iload_n 0, 1) := by decide +kernel
theorem dX6_isPrime_23 : decode cX6_isPrime 23 = .ok (.iload_n 2, 1) := by decide +kernel
theorem dX6_isPrime_24 : decode cX6_isPrime 24 = .ok (.irem, 1) := by decide +kernel
theorem dX6_isPrime_25 : decode cX6_isPrime 25 = .ok (.ifCond .eq 7, 3) := by decide +kernel
theorem dX6_isPrime_28 : decode cX6_isPrime 28 = .ok (.iconst 1, 1) := by decide +kernel
theorem dX6_isPrime_29 : decode cX6_isPrime 29 = .ok (.goto 4, 3) := by decide +kernel
theorem dX6_isPrime_32 : decode cX6_isPrime 32 = .ok (.iconst 0, 1) := by decide +kernel
theorem dX6_isPrime_33 : decode cX6_isPrime 33 = .ok (.istore_n 1, 1) := by decide +kernel
theorem dX6_isPrime_34 : decode cX6_isPrime 34 = .ok (.iinc 2 1, 3) := by decide +kernel
theorem dX6_isPrime_37 : decode cX6_isPrime 37 = .ok (.goto (-24), 3) := by decide +kernel
theorem dX6_isPrime_40 : decode cX6_isPrime 40 = .ok (.iload_n 1, 1) := by decide +kernel
theorem dX6_isPrime_41 : decode cX6_isPrime 41 = .ok (.ireturn, 1) := by decide +kernel
theorem dX6_rest_0 : decode cX6_rest 0 = .ok (.iload_n 1, 1) := by decide +kernel
theorem dX6_rest_1 : decode cX6_rest 1 = .ok (.aload_n 0, 1) := by decide +kernel
theorem dX6_rest_2 : decode cX6_rest 2 = .ok (.getfield 7, 3) := by decide +kernel
theorem dX6_rest_5 : decode cX6_rest 5 = .ok (.irem, 1) := by decide +kernel
theorem dX6_rest_6 : decode cX6_rest 6 = .ok (.aload_n 0, 1) := by decide +kernel
theorem dX6_rest_7 : decode cX6_rest 7 = .ok (.getfield 7, 3) := by decide +kernel
theorem dX6_rest_10 : decode cX6_rest 10 = .ok (.iadd, 1) := by decide +kernel
theorem dX6_rest_11 : decode cX6_rest 11 = .ok (.aload_n 0, 1) := by decide +kernel
theorem dX6_rest_12 : decode cX6_rest 12 = .ok (.getfield 7, 3) := by decide +kernel
theorem dX6_rest_15 : decode cX6_rest 15 = .ok (.irem, 1) := by decide +kernel
theorem dX6_rest_16 : decode cX6_rest 16 = .ok (.ireturn, 1) := by decide +kernel
theorem dX6_power_0 : decode cX6_power 0 = .ok (.iconst 1, 1) := by decide +kernel
theorem dX6_power_1 : decode cX6_power 1 = .ok (.istore_n 3, 1) := by decide +kernel
theorem dX6_power_2 : decode cX6_power 2 = .ok (.iconst 0, 1) := by decide +kernel
theorem dX6_power_3 : decode cX6_power 3 = .ok (.istore 4, 2) := by decide +kernel
theorem dX6_power_5 : decode cX6_power 5 = .ok (.iload 4, 2) := by decide +kernel
theorem dX6_power_7 : decode cX6_power 7 = .ok (.iload_n 2, 1) := by decide +kernel
theorem dX6_power_8 : decode cX6_power 8 = .ok (.if_icmp .ge 18, 3) := by decide +kernel
theorem dX6_power_11 : decode cX6_power 11 = .ok (.iload_n 3, 1) := by decide +kernel
theorem dX6_power_12 : decode cX6_power 12 = .ok (.iload_n 1, 1) := by decide +kernel
theorem dX6_power_13 : decode cX6_power 13 = .ok (.imul, 1) := by decide +kernel
theorem dX6_power_14 : decode cX6_power 14 = .ok (.aload_n 0, 1) := by decide +kernel
theorem dX6_power_15 : decode cX6_power 15 = .ok (.getfield 7, 3) := by decide +kernel
theorem dX6_power_18 : decode cX6_power 18 = .ok (.irem, 1) := by decide +kernel
theorem dX6_power_19 : decode cX6_power 19 = .ok (.istore_n 3, 1) := by decide +kernel
theorem dX6_power_20 : decode cX6_power 20 = .ok (.iinc 4 1, 3) := by decide +kernel
theorem dX6_power_23 : decode cX6_power 23 = .ok (.goto (-18), 3) := by decide +kernel
theorem dX6_power_26 : decode cX6_power 26 = .ok (.iload_n 3, 1) := by decide +kernel
theorem dX6_power_27 : decode cX6_power 27 = .ok (.ireturn, 1) := by decide +kernel
theorem dX6_over_0 : decode cX6_over 0 = .ok (.iconst 1, 1) := by decide +kernel
theorem dX6_over_1 : decode cX6_over 1 = .ok (.istore_n 2, 1) := by decide +kernel
theorem dX6_over_2 : decode cX6_over 2 = .ok (.iload_n 2, 1) := by decide +kernel
theorem dX6_over_3 : decode cX6_over 3 = .ok (.iload_n 1, 1) := by decide +kernel
theorem dX6_over_4 : decode cX6_over 4 = .ok (.imul, 1) := by decide +kernel
theorem dX6_over_5 : decode cX6_over 5 = .ok (.aload_n 0, 1) := by decide +kernel
theorem dX6_over_6 : decode cX6_over 6 = .ok (.getfield 7, 3) := by decide +kernel
theorem dX6_over_9 : decode cX6_over 9 = .ok (.irem, 1) := by decide +kernel
theorem dX6_over_10 : decode cX6_over 10 = .ok (.iconst 1, 1) := by decide +kernel
theorem dX6_over_11 : decode cX6_over 11 = .ok (.if_icmp .eq 9, 3) := by decide +kernel
theorem dX6_over_14 : decode cX6_over 14 = .ok (.iinc 2 1, 3) := by decide +kernel
theorem dX6_over_17 : decode cX6_over 17 = .ok (.goto (-15), 3) := by decide +kernel
theorem dX6_over_20 : decode cX6_over 20 = .ok (.iload_n 2, 1) := by decide +kernel
theorem dX6_over_21 : decode cX6_over 21 = .ok (.ireturn, 1) := by decide +kernel
theorem dX6_prime_0 : decode cX6_prime 0 = .ok (.iload_n 1, 1) := by decide +kernel
theorem dX6_prime_1 : decode cX6_prime 1 = .ok (.i2l, 1) := by decide +kernel
theorem dX6_prime_2 : decode cX6_prime 2 = .ok (.ldc2_w 61, 3) := by decide +kernel
theorem dX6_prime_5 : decode cX6_prime 5 = .ok (.ldc2_w 63, 3) := by decide +kernel
theorem dX6_prime_8 : decode cX6_prime 8 = .ok (.invokestatic 65, 3) := by decide +kernel
theorem dX6_prime_11 : decode cX6_prime 11 = .ok (.ifCond .eq 10, 3) := by decide +kernel
theorem dX6_prime_14 : decode cX6_prime 14 = .ok (.iload_n 1, 1) := by decide +kernel
theorem dX6_prime_15 : decode cX6_prime 15 = .ok (.invokestatic 69, 3) := by decide +kernel
theorem dX6_prime_18 : decode cX6_prime 18 = .ok (.ifCond .ne 7, 3) := by decide +kernel
theorem dX6_prime_21 : decode cX6_prime 21 = .ok (.sipush (-1002), 3) := by decide +kernel
theorem dX6_prime_24 : decode cX6_prime 24 = .ok (.ireturn, 1) := by decide +kernel
theorem dX6_prime_25 : decode cX6_prime 25 = .ok (.aload_n 0, 1) := by decide +kernel
theorem dX6_prime_26 : decode cX6_prime 26 = .ok (.getfield 7, 3) := by decide +kernel
theorem dX6_prime_29 : decode cX6_prime 29 = .ok (.istore_n 2, 1) := by decide +kernel
theorem dX6_prime_30 : decode cX6_prime 30 = .ok (.aload_n 0, 1) := by decide +kernel
theorem dX6_prime_31 : decode cX6_prime 31 = .ok (.iload_n 1, 1) := by decide +kernel
theorem dX6_prime_32 : decode cX6_prime 32 = .ok (.putfield 7, 3) := by decide +kernel
theorem dX6_prime_35 : decode cX6_prime 35 = .ok (.aload_n 0, 1) := by decide +kernel
theorem dX6_prime_36 : decode cX6_prime 36 = .ok (.invokevirtual 55, 3) := by decide +kernel
theorem dX6_prime_39 : decode cX6_prime 39 = .ok (.iload_n 2, 1) := by decide +kernel
theorem dX6_prime_40 : decode cX6_prime 40 = .ok (.ireturn, 1) := by decide +kernel
theorem dX6_bits_0 : decode cX6_bits 0 = .ok (.iconst 0, 1) := by decide +kernel
theorem dX6_bits_1 : decode cX6_bits 1 = .ok (.istore_n 1, 1) := by decide +kernel
theorem dX6_bits_2 : decode cX6_bits 2 = .ok (.iconst 0, 1) := by decide +kernel
theorem dX6_bits_3 : decode cX6_bits 3 = .ok (.istore_n 2, 1) := by decide +kernel
theorem dX6_bits_4 : decode cX6_bits 4 = .ok (.iload_n 2, 1) := by decide +kernel
theorem dX6_bits_5 : decode cX6_bits 5 = .ok (.bipush 24, 2) := by decide +kernel
theorem dX6_bits_7 : decode cX6_bits 7 = .ok (.if_icmp .ge 17, 3) := by decide +kernel
theorem dX6_bits_10 : decode cX6_bits 10 = .ok (.iload_n 1, 1) := by decide +kernel
theorem dX6_bits_11 : decode cX6_bits 11 = .ok (.iload_n 0, 1) := by decide +kernel
theorem dX6_bits_12 : decode cX6_bits 12 = .ok (.iload_n 2, 1) := by decide +kernel
theorem dX6_bits_13 : decode cX6_bits 13 = .ok (.ishr, 1) := by decide +kernel
theorem dX6_bits_14 : decode cX6_bits 14 = .ok (.iconst 1, 1) := by decide +kernel
theorem dX6_bits_15 : decode cX6_bits 15 = .ok (.iand, 1) := by decide +kernel
theorem dX6_bits_16 : decode cX6_bits 16 = .ok (.iadd, 1) := by decide +kernel
theorem dX6_bits_17 : decode cX6_bits 17 = .ok (.istore_n 1, 1) := by decide +kernel
theorem dX6_bits_18 : decode cX6_bits 18 = .ok (.iinc 2 1, 3) := by decide +kernel
theorem dX6_bits_21 : decode cX6_bits 21 = .ok (.goto (-17), 3) := by decide +kernel
theorem dX6_bits_24 : decode cX6_bits 24 = .ok (.iload_n 1, 1) := by decide +kernel
theorem dX6_bits_25 : decode cX6_bits 25 = .ok (.ireturn, 1) := by decide +kernel
theorem dX6_hearers_0 : decode cX6_hearers 0 = .ok (.iload_n 1, 1) := by decide +kernel
theorem dX6_hearers_1 : decode cX6_hearers 1 = .ok (.i2l, 1) := by decide +kernel
theorem dX6_hearers_2 : decode cX6_hearers 2 = .ok (.lconst 0, 1) := by decide +kernel
theorem dX6_hearers_3 : decode cX6_hearers 3 = .ok (.ldc2_w 73, 3) := by decide +kernel
theorem dX6_hearers_6 : decode cX6_hearers 6 = .ok (.invokestatic 65, 3) := by decide +kernel
theorem dX6_hearers_9 : decode cX6_hearers 9 = .ok (.ifCond .ne 7, 3) := by decide +kernel
theorem dX6_hearers_12 : decode cX6_hearers 12 = .ok (.sipush (-1002), 3) := by decide +kernel
theorem dX6_hearers_15 : decode cX6_hearers 15 = .ok (.ireturn, 1) := by decide +kernel
theorem dX6_hearers_16 : decode cX6_hearers 16 = .ok (.aload_n 0, 1) := by decide +kernel
theorem dX6_hearers_17 : decode cX6_hearers 17 = .ok (.iload_n 1, 1) := by decide +kernel
theorem dX6_hearers_18 : decode cX6_hearers 18 = .ok (.putfield 14, 3) := by decide +kernel
theorem dX6_hearers_21 : decode cX6_hearers 21 = .ok (.aload_n 0, 1) := by decide +kernel
theorem dX6_hearers_22 : decode cX6_hearers 22 = .ok (.getfield 14, 3) := by decide +kernel
theorem dX6_hearers_25 : decode cX6_hearers 25 = .ok (.invokestatic 75, 3) := by decide +kernel
theorem dX6_hearers_28 : decode cX6_hearers 28 = .ok (.ireturn, 1) := by decide +kernel
theorem dX6_sender_0 : decode cX6_sender 0 = .ok (.iload_n 1, 1) := by decide +kernel
theorem dX6_sender_1 : decode cX6_sender 1 = .ok (.i2l, 1) := by decide +kernel
theorem dX6_sender_2 : decode cX6_sender 2 = .ok (.lconst 1, 1) := by decide +kernel
theorem dX6_sender_3 : decode cX6_sender 3 = .ok (.aload_n 0, 1) := by decide +kernel
theorem dX6_sender_4 : decode cX6_sender 4 = .ok (.getfield 7, 3) := by decide +kernel
theorem dX6_sender_7 : decode cX6_sender 7 = .ok (.iconst 1, 1) := by decide +kernel
theorem dX6_sender_8 : decode cX6_sender 8 = .ok (.isub, 1) := by decide +kernel
theorem dX6_sender_9 : decode cX6_sender 9 = .ok (.i2l, 1) := by decide +kernel
theorem dX6_sender_10 : decode cX6_sender 10 = .ok (.invokestatic 65, 3) := by decide +kernel
theorem dX6_sender_13 : decode cX6_sender 13 = .ok (.ifCond .eq 19, 3) := by decide +kernel
theorem dX6_sender_16 : decode cX6_sender 16 = .ok (.iload_n 2, 1) := by decide +kernel
theorem dX6_sender_17 : decode cX6_sender 17 = .ok (.i2l, 1) := by decide +kernel
theorem dX6_sender_18 : decode cX6_sender 18 = .ok (.lconst 1, 1) := by decide +kernel
theorem dX6_sender_19 : decode cX6_sender 19 = .ok (.aload_n 0, 1) := by decide +kernel
theorem dX6_sender_20 : decode cX6_sender 20 = .ok (.getfield 7, 3) := by decide +kernel
theorem dX6_sender_23 : decode cX6_sender 23 = .ok (.iconst 1, 1) := by decide +kernel
theorem dX6_sender_24 : decode cX6_sender 24 = .ok (.isub, 1) := by decide +kernel
theorem dX6_sender_25 : decode cX6_sender 25 = .ok (.i2l, 1) := by decide +kernel
theorem dX6_sender_26 : decode cX6_sender 26 = .ok (.invokestatic 65, 3) := by decide +kernel
theorem dX6_sender_29 : decode cX6_sender 29 = .ok (.ifCond .ne 7, 3) := by decide +kernel
theorem dX6_sender_32 : decode cX6_sender 32 = .ok (.sipush (-1002), 3) := by decide +kernel
theorem dX6_sender_35 : decode cX6_sender 35 = .ok (.ireturn, 1) := by decide +kernel
theorem dX6_sender_36 : decode cX6_sender 36 = .ok (.iconst 0, 1) := by decide +kernel
theorem dX6_sender_37 : decode cX6_sender 37 = .ok (.istore_n 3, 1) := by decide +kernel
theorem dX6_sender_38 : decode cX6_sender 38 = .ok (.iload_n 3, 1) := by decide +kernel
theorem dX6_sender_39 : decode cX6_sender 39 = .ok (.aload_n 0, 1) := by decide +kernel
theorem dX6_sender_40 : decode cX6_sender 40 = .ok (.getfield 58, 3) := by decide +kernel
theorem dX6_sender_43 : decode cX6_sender 43 = .ok (.if_icmp .ge 23, 3) := by decide +kernel
theorem dX6_sender_46 : decode cX6_sender 46 = .ok (.aload_n 0, 1) := by decide +kernel
theorem dX6_sender_47 : decode cX6_sender 47 = .ok (.getfield 17, 3) := by decide +kernel
theorem dX6_sender_50 : decode cX6_sender 50 = .ok (.iload_n 3, 1) := by decide +kernel
theorem dX6_sender_51 : decode cX6_sender 51 = .ok (.iaload, 1) := by decide +kernel
theorem dX6_sender_52 : decode cX6_sender 52 = .ok (.iload_n 1, 1) := by decide +kernel
theorem dX6_sender_53 : decode cX6_sender 53 = .ok (.if_icmp .ne 7, 3) := by decide +kernel
theorem dX6_sender_56 : decode cX6_sender 56 = .ok (.sipush (-1003), 3) := by decide +kernel
theorem dX6_sender_59 : decode cX6_sender 59 = .ok (.ireturn, 1) := by decide +kernel
theorem dX6_sender_60 : decode cX6_sender 60 = .ok (.iinc 3 1, 3) := by decide +kernel
theorem dX6_sender_63 : decode cX6_sender 63 = .ok (.goto (-25), 3) := by decide +kernel
theorem dX6_sender_66 : decode cX6_sender 66 = .ok (.aload_n 0, 1) := by decide +kernel
theorem dX6_sender_67 : decode cX6_sender 67 = .ok (.getfield 58, 3) := by decide +kernel
theorem dX6_sender_70 : decode cX6_sender 70 = .ok (.bipush 8, 2) := by decide +kernel
theorem dX6_sender_72 : decode cX6_sender 72 = .ok (.if_icmp .ne 7, 3) := by decide +kernel
theorem dX6_sender_75 : decode cX6_sender 75 = .ok (.sipush (-1004), 3) := by decide +kernel
theorem dX6_sender_78 : decode cX6_sender 78 = .ok (.ireturn, 1) := by decide +kernel
theorem dX6_sender_79 : decode cX6_sender 79 = .ok (.aload_n 0, 1) := by decide +kernel
theorem dX6_sender_80 : decode cX6_sender 80 = .ok (.getfield 17, 3) := by decide +kernel
theorem dX6_sender_83 : decode cX6_sender 83 = .ok (.aload_n 0, 1) := by decide +kernel
theorem dX6_sender_84 : decode cX6_sender 84 = .ok (.getfield 58, 3) := by decide +kernel
theorem dX6_sender_87 : decode cX6_sender 87 = .ok (.iload_n 1, 1) := by decide +kernel
theorem dX6_sender_88 : decode cX6_sender 88 = .ok (.iastore, 1) := by decide +kernel
theorem dX6_sender_89 : decode cX6_sender 89 = .ok (.aload_n 0, 1) := by decide +kernel
theorem dX6_sender_90 : decode cX6_sender 90 = .ok (.getfield 21, 3) := by decide +kernel
theorem dX6_sender_93 : decode cX6_sender 93 = .ok (.aload_n 0, 1) := by decide +kernel
theorem dX6_sender_94 : decode cX6_sender 94 = .ok (.getfield 58, 3) := by decide +kernel
theorem dX6_sender_97 : decode cX6_sender 97 = .ok (.iload_n 2, 1) := by decide +kernel
theorem dX6_sender_98 : decode cX6_sender 98 = .ok (.iastore, 1) := by decide +kernel
theorem dX6_sender_99 : decode cX6_sender 99 = .ok (.aload_n 0, 1) := by decide +kernel
theorem dX6_sender_100 : decode cX6_sender 100 = .ok (.dup, 1) := by decide +kernel
theorem dX6_sender_101 : decode cX6_sender 101 = .ok (.getfield 58, 3) := by decide +kernel
theorem dX6_sender_104 : decode cX6_sender 104 = .ok (.iconst 1, 1) := by decide +kernel
theorem dX6_sender_105 : decode cX6_sender 105 = .ok (.iadd, 1) := by decide +kernel
theorem dX6_sender_106 : decode cX6_sender 106 = .ok (.putfield 58, 3) := by decide +kernel
theorem dX6_sender_109 : decode cX6_sender 109 = .ok (.aload_n 0, 1) := by decide +kernel
theorem dX6_sender_110 : decode cX6_sender 110 = .ok (.getfield 58, 3) := by decide +kernel
theorem dX6_sender_113 : decode cX6_sender 113 = .ok (.iconst 1, 1) := by decide +kernel
theorem dX6_sender_114 : decode cX6_sender 114 = .ok (.isub, 1) := by decide +kernel
theorem dX6_sender_115 : decode cX6_sender 115 = .ok (.ireturn, 1) := by decide +kernel
theorem dX6_drop_0 : decode cX6_drop 0 = .ok (.aload_n 0, 1) := by decide +kernel
theorem dX6_drop_1 : decode cX6_drop 1 = .ok (.getfield 58, 3) := by decide +kernel
theorem dX6_drop_4 : decode cX6_drop 4 = .ok (.ifCond .ne 7, 3) := by decide +kernel
theorem dX6_drop_7 : decode cX6_drop 7 = .ok (.sipush (-1003), 3) := by decide +kernel
theorem dX6_drop_10 : decode cX6_drop 10 = .ok (.ireturn, 1) := by decide +kernel
theorem dX6_drop_11 : decode cX6_drop 11 = .ok (.aload_n 0, 1) := by decide +kernel
theorem dX6_drop_12 : decode cX6_drop 12 = .ok (.dup, 1) := by decide +kernel
theorem dX6_drop_13 : decode cX6_drop 13 = .ok (.getfield 58, 3) := by decide +kernel
theorem dX6_drop_16 : decode cX6_drop 16 = .ok (.iconst 1, 1) := by decide +kernel
theorem dX6_drop_17 : decode cX6_drop 17 = .ok (.isub, 1) := by decide +kernel
theorem dX6_drop_18 : decode cX6_drop 18 = .ok (.putfield 58, 3) := by decide +kernel
theorem dX6_drop_21 : decode cX6_drop 21 = .ok (.aload_n 0, 1) := by decide +kernel
theorem dX6_drop_22 : decode cX6_drop 22 = .ok (.getfield 58, 3) := by decide +kernel
theorem dX6_drop_25 : decode cX6_drop 25 = .ok (.ireturn, 1) := by decide +kernel
theorem dX6_isPlace_0 : decode cX6_isPlace 0 = .ok (.iload_n 0, 1) := by decide +kernel
theorem dX6_isPlace_1 : decode cX6_isPlace 1 = .ok (.i2l, 1) := by decide +kernel
theorem dX6_isPlace_2 : decode cX6_isPlace 2 = .ok (.lconst 0, 1) := by decide +kernel
theorem dX6_isPlace_3 : decode cX6_isPlace 3 = .ok (.ldc2_w 79, 3) := by decide +kernel
theorem dX6_isPlace_6 : decode cX6_isPlace 6 = .ok (.invokestatic 65, 3) := by decide +kernel
theorem dX6_isPlace_9 : decode cX6_isPlace 9 = .ok (.ireturn, 1) := by decide +kernel
theorem dX6_gain_0 : decode cX6_gain 0 = .ok (.iload_n 1, 1) := by decide +kernel
theorem dX6_gain_1 : decode cX6_gain 1 = .ok (.invokestatic 81, 3) := by decide +kernel
theorem dX6_gain_4 : decode cX6_gain 4 = .ok (.ifCond .eq 19, 3) := by decide +kernel
theorem dX6_gain_7 : decode cX6_gain 7 = .ok (.iload_n 2, 1) := by decide +kernel
theorem dX6_gain_8 : decode cX6_gain 8 = .ok (.i2l, 1) := by decide +kernel
theorem dX6_gain_9 : decode cX6_gain 9 = .ok (.lconst 1, 1) := by decide +kernel
theorem dX6_gain_10 : decode cX6_gain 10 = .ok (.aload_n 0, 1) := by decide +kernel
theorem dX6_gain_11 : decode cX6_gain 11 = .ok (.getfield 7, 3) := by decide +kernel
theorem dX6_gain_14 : decode cX6_gain 14 = .ok (.iconst 1, 1) := by decide +kernel
theorem dX6_gain_15 : decode cX6_gain 15 = .ok (.isub, 1) := by decide +kernel
theorem dX6_gain_16 : decode cX6_gain 16 = .ok (.i2l, 1) := by decide +kernel
theorem dX6_gain_17 : decode cX6_gain 17 = .ok (.invokestatic 65, 3) := by decide +kernel
theorem dX6_gain_20 : decode cX6_gain 20 = .ok (.ifCond .ne 7, 3) := by decide +kernel
theorem dX6_gain_23 : decode cX6_gain 23 = .ok (.sipush (-1002), 3) := by decide +kernel
theorem dX6_gain_26 : decode cX6_gain 26 = .ok (.ireturn, 1) := by decide +kernel
theorem dX6_gain_27 : decode cX6_gain 27 = .ok (.aload_n 0, 1) := by decide +kernel
theorem dX6_gain_28 : decode cX6_gain 28 = .ok (.getfield 24, 3) := by decide +kernel
theorem dX6_gain_31 : decode cX6_gain 31 = .ok (.iload_n 1, 1) := by decide +kernel
theorem dX6_gain_32 : decode cX6_gain 32 = .ok (.iaload, 1) := by decide +kernel
theorem dX6_gain_33 : decode cX6_gain 33 = .ok (.istore_n 3, 1) := by decide +kernel
theorem dX6_gain_34 : decode cX6_gain 34 = .ok (.aload_n 0, 1) := by decide +kernel
theorem dX6_gain_35 : decode cX6_gain 35 = .ok (.getfield 24, 3) := by decide +kernel
theorem dX6_gain_38 : decode cX6_gain 38 = .ok (.iload_n 1, 1) := by decide +kernel
theorem dX6_gain_39 : decode cX6_gain 39 = .ok (.iload_n 2, 1) := by decide +kernel
theorem dX6_gain_40 : decode cX6_gain 40 = .ok (.iastore, 1) := by decide +kernel
theorem dX6_gain_41 : decode cX6_gain 41 = .ok (.iload_n 3, 1) := by decide +kernel
theorem dX6_gain_42 : decode cX6_gain 42 = .ok (.ireturn, 1) := by decide +kernel
theorem dX6_heardAt_0 : decode cX6_heardAt 0 = .ok (.aload_n 0, 1) := by decide +kernel
theorem dX6_heardAt_1 : decode cX6_heardAt 1 = .ok (.getfield 27, 3) := by decide +kernel
theorem dX6_heardAt_4 : decode cX6_heardAt 4 = .ok (.iload_n 1, 1) := by decide +kernel
theorem dX6_heardAt_5 : decode cX6_heardAt 5 = .ok (.iaload, 1) := by decide +kernel
theorem dX6_heardAt_6 : decode cX6_heardAt 6 = .ok (.ifCond .lt 10, 3) := by decide +kernel
theorem dX6_heardAt_9 : decode cX6_heardAt 9 = .ok (.aload_n 0, 1) := by decide +kernel
theorem dX6_heardAt_10 : decode cX6_heardAt 10 = .ok (.getfield 27, 3) := by decide +kernel
theorem dX6_heardAt_13 : decode cX6_heardAt 13 = .ok (.iload_n 1, 1) := by decide +kernel
theorem dX6_heardAt_14 : decode cX6_heardAt 14 = .ok (.iaload, 1) := by decide +kernel
theorem dX6_heardAt_15 : decode cX6_heardAt 15 = .ok (.ireturn, 1) := by decide +kernel
theorem dX6_heardAt_16 : decode cX6_heardAt 16 = .ok (.iconst 0, 1) := by decide +kernel
theorem dX6_heardAt_17 : decode cX6_heardAt 17 = .ok (.istore_n 2, 1) := by decide +kernel
theorem dX6_heardAt_18 : decode cX6_heardAt 18 = .ok (.iconst 0, 1) := by decide +kernel
theorem dX6_heardAt_19 : decode cX6_heardAt 19 = .ok (.istore_n 3, 1) := by decide +kernel
theorem dX6_heardAt_20 : decode cX6_heardAt 20 = .ok (.iload_n 3, 1) := by decide +kernel
theorem dX6_heardAt_21 : decode cX6_heardAt 21 = .ok (.aload_n 0, 1) := by decide +kernel
theorem dX6_heardAt_22 : decode cX6_heardAt 22 = .ok (.getfield 58, 3) := by decide +kernel
theorem dX6_heardAt_25 : decode cX6_heardAt 25 = .ok (.if_icmp .ge 30, 3) := by decide +kernel
theorem dX6_heardAt_28 : decode cX6_heardAt 28 = .ok (.iload_n 2, 1) := by decide +kernel
theorem dX6_heardAt_29 : decode cX6_heardAt 29 = .ok (.aload_n 0, 1) := by decide +kernel
theorem dX6_heardAt_30 : decode cX6_heardAt 30 = .ok (.getfield 21, 3) := by decide +kernel
theorem dX6_heardAt_33 : decode cX6_heardAt 33 = .ok (.iload_n 3, 1) := by decide +kernel
theorem dX6_heardAt_34 : decode cX6_heardAt 34 = .ok (.iaload, 1) := by decide +kernel
theorem dX6_heardAt_35 : decode cX6_heardAt 35 = .ok (.aload_n 0, 1) := by decide +kernel
theorem dX6_heardAt_36 : decode cX6_heardAt 36 = .ok (.aload_n 0, 1) := by decide +kernel
theorem dX6_heardAt_37 : decode cX6_heardAt 37 = .ok (.getfield 17, 3) := by decide +kernel
theorem dX6_heardAt_40 : decode cX6_heardAt 40 = .ok (.iload_n 3, 1) := by decide +kernel
theorem dX6_heardAt_41 : decode cX6_heardAt 41 = .ok (.iaload, 1) := by decide +kernel
theorem dX6_heardAt_42 : decode cX6_heardAt 42 = .ok (.iload_n 1, 1) := by decide +kernel
theorem dX6_heardAt_43 : decode cX6_heardAt 43 = .ok (.invokevirtual 84, 3) := by decide +kernel
theorem dX6_heardAt_46 : decode cX6_heardAt 46 = .ok (.imul, 1) := by decide +kernel
theorem dX6_heardAt_47 : decode cX6_heardAt 47 = .ok (.iadd, 1) := by decide +kernel
theorem dX6_heardAt_48 : decode cX6_heardAt 48 = .ok (.istore_n 2, 1) := by decide +kernel
theorem dX6_heardAt_49 : decode cX6_heardAt 49 = .ok (.iinc 3 1, 3) := by decide +kernel
theorem dX6_heardAt_52 : decode cX6_heardAt 52 = .ok (.goto (-32), 3) := by decide +kernel
theorem dX6_heardAt_55 : decode cX6_heardAt 55 = .ok (.iload_n 2, 1) := by decide +kernel
theorem dX6_heardAt_56 : decode cX6_heardAt 56 = .ok (.aload_n 0, 1) := by decide +kernel
theorem dX6_heardAt_57 : decode cX6_heardAt 57 = .ok (.getfield 7, 3) := by decide +kernel
theorem dX6_heardAt_60 : decode cX6_heardAt 60 = .ok (.irem, 1) := by decide +kernel
theorem dX6_heardAt_61 : decode cX6_heardAt 61 = .ok (.aload_n 0, 1) := by decide +kernel
theorem dX6_heardAt_62 : decode cX6_heardAt 62 = .ok (.getfield 24, 3) := by decide +kernel
theorem dX6_heardAt_65 : decode cX6_heardAt 65 = .ok (.iload_n 1, 1) := by decide +kernel
theorem dX6_heardAt_66 : decode cX6_heardAt 66 = .ok (.iaload, 1) := by decide +kernel
theorem dX6_heardAt_67 : decode cX6_heardAt 67 = .ok (.imul, 1) := by decide +kernel
theorem dX6_heardAt_68 : decode cX6_heardAt 68 = .ok (.aload_n 0, 1) := by decide +kernel
theorem dX6_heardAt_69 : decode cX6_heardAt 69 = .ok (.getfield 7, 3) := by decide +kernel
theorem dX6_heardAt_72 : decode cX6_heardAt 72 = .ok (.irem, 1) := by decide +kernel
theorem dX6_heardAt_73 : decode cX6_heardAt 73 = .ok (.ireturn, 1) := by decide +kernel
theorem dX6_read_0 : decode cX6_read 0 = .ok (.iload_n 1, 1) := by decide +kernel
theorem dX6_read_1 : decode cX6_read 1 = .ok (.invokestatic 81, 3) := by decide +kernel
theorem dX6_read_4 : decode cX6_read 4 = .ok (.ifCond .eq 21, 3) := by decide +kernel
theorem dX6_read_7 : decode cX6_read 7 = .ok (.iload_n 2, 1) := by decide +kernel
theorem dX6_read_8 : decode cX6_read 8 = .ok (.i2l, 1) := by decide +kernel
theorem dX6_read_9 : decode cX6_read 9 = .ok (.ldc2_w 88, 3) := by decide +kernel
theorem dX6_read_12 : decode cX6_read 12 = .ok (.aload_n 0, 1) := by decide +kernel
theorem dX6_read_13 : decode cX6_read 13 = .ok (.getfield 7, 3) := by decide +kernel
theorem dX6_read_16 : decode cX6_read 16 = .ok (.iconst 1, 1) := by decide +kernel
theorem dX6_read_17 : decode cX6_read 17 = .ok (.isub, 1) := by decide +kernel
theorem dX6_read_18 : decode cX6_read 18 = .ok (.i2l, 1) := by decide +kernel
theorem dX6_read_19 : decode cX6_read 19 = .ok (.invokestatic 65, 3) := by decide +kernel
theorem dX6_read_22 : decode cX6_read 22 = .ok (.ifCond .ne 7, 3) := by decide +kernel
theorem dX6_read_25 : decode cX6_read 25 = .ok (.sipush (-1002), 3) := by decide +kernel
theorem dX6_read_28 : decode cX6_read 28 = .ok (.ireturn, 1) := by decide +kernel
theorem dX6_read_29 : decode cX6_read 29 = .ok (.aload_n 0, 1) := by decide +kernel
theorem dX6_read_30 : decode cX6_read 30 = .ok (.getfield 27, 3) := by decide +kernel
theorem dX6_read_33 : decode cX6_read 33 = .ok (.iload_n 1, 1) := by decide +kernel
theorem dX6_read_34 : decode cX6_read 34 = .ok (.iload_n 2, 1) := by decide +kernel
theorem dX6_read_35 : decode cX6_read 35 = .ok (.iastore, 1) := by decide +kernel
theorem dX6_read_36 : decode cX6_read 36 = .ok (.aload_n 0, 1) := by decide +kernel
theorem dX6_read_37 : decode cX6_read 37 = .ok (.iload_n 1, 1) := by decide +kernel
theorem dX6_read_38 : decode cX6_read 38 = .ok (.invokevirtual 90, 3) := by decide +kernel
theorem dX6_read_41 : decode cX6_read 41 = .ok (.ireturn, 1) := by decide +kernel
theorem dX6_isHearer_0 : decode cX6_isHearer 0 = .ok (.aload_n 0, 1) := by decide +kernel
theorem dX6_isHearer_1 : decode cX6_isHearer 1 = .ok (.getfield 14, 3) := by decide +kernel
theorem dX6_isHearer_4 : decode cX6_isHearer 4 = .ok (.iload_n 1, 1) := by decide +kernel
theorem dX6_isHearer_5 : decode cX6_isHearer 5 = .ok (.ishr, 1) := by decide +kernel
theorem dX6_isHearer_6 : decode cX6_isHearer 6 = .ok (.iconst 1, 1) := by decide +kernel
theorem dX6_isHearer_7 : decode cX6_isHearer 7 = .ok (.iand, 1) := by decide +kernel
theorem dX6_isHearer_8 : decode cX6_isHearer 8 = .ok (.iconst 1, 1) := by decide +kernel
theorem dX6_isHearer_9 : decode cX6_isHearer 9 = .ok (.if_icmp .ne 7, 3) := by decide +kernel
theorem dX6_isHearer_12 : decode cX6_isHearer 12 = .ok (.iconst 1, 1) := by decide +kernel
theorem dX6_isHearer_13 : decode cX6_isHearer 13 = .ok (.goto 4, 3) := by decide +kernel
theorem dX6_isHearer_16 : decode cX6_isHearer 16 = .ok (.iconst 0, 1) := by decide +kernel
theorem dX6_isHearer_17 : decode cX6_isHearer 17 = .ok (.ireturn, 1) := by decide +kernel
theorem dX6_heard_0 : decode cX6_heard 0 = .ok (.iload_n 1, 1) := by decide +kernel
theorem dX6_heard_1 : decode cX6_heard 1 = .ok (.invokestatic 81, 3) := by decide +kernel
theorem dX6_heard_4 : decode cX6_heard 4 = .ok (.ifCond .ne 7, 3) := by decide +kernel
theorem dX6_heard_7 : decode cX6_heard 7 = .ok (.sipush (-1002), 3) := by decide +kernel
theorem dX6_heard_10 : decode cX6_heard 10 = .ok (.ireturn, 1) := by decide +kernel
theorem dX6_heard_11 : decode cX6_heard 11 = .ok (.aload_n 0, 1) := by decide +kernel
theorem dX6_heard_12 : decode cX6_heard 12 = .ok (.iload_n 1, 1) := by decide +kernel
theorem dX6_heard_13 : decode cX6_heard 13 = .ok (.invokevirtual 93, 3) := by decide +kernel
theorem dX6_heard_16 : decode cX6_heard 16 = .ok (.ifCond .eq 11, 3) := by decide +kernel
theorem dX6_heard_19 : decode cX6_heard 19 = .ok (.aload_n 0, 1) := by decide +kernel
theorem dX6_heard_20 : decode cX6_heard 20 = .ok (.iload_n 1, 1) := by decide +kernel
theorem dX6_heard_21 : decode cX6_heard 21 = .ok (.invokevirtual 90, 3) := by decide +kernel
theorem dX6_heard_24 : decode cX6_heard 24 = .ok (.goto 6, 3) := by decide +kernel
theorem dX6_heard_27 : decode cX6_heard 27 = .ok (.sipush (-1003), 3) := by decide +kernel
theorem dX6_heard_30 : decode cX6_heard 30 = .ok (.ireturn, 1) := by decide +kernel
theorem dX6_count_0 : decode cX6_count 0 = .ok (.iconst 0, 1) := by decide +kernel
theorem dX6_count_1 : decode cX6_count 1 = .ok (.istore_n 2, 1) := by decide +kernel
theorem dX6_count_2 : decode cX6_count 2 = .ok (.iconst 0, 1) := by decide +kernel
theorem dX6_count_3 : decode cX6_count 3 = .ok (.istore_n 3, 1) := by decide +kernel
theorem dX6_count_4 : decode cX6_count 4 = .ok (.iload_n 3, 1) := by decide +kernel
theorem dX6_count_5 : decode cX6_count 5 = .ok (.bipush 24, 2) := by decide +kernel
theorem dX6_count_7 : decode cX6_count 7 = .ok (.if_icmp .ge 26, 3) := by decide +kernel
theorem dX6_count_10 : decode cX6_count 10 = .ok (.iload_n 2, 1) := by decide +kernel
theorem dX6_count_11 : decode cX6_count 11 = .ok (.aload_n 0, 1) := by decide +kernel
theorem dX6_count_12 : decode cX6_count 12 = .ok (.getfield 27, 3) := by decide +kernel
theorem dX6_count_15 : decode cX6_count 15 = .ok (.iload_n 3, 1) := by decide +kernel
theorem dX6_count_16 : decode cX6_count 16 = .ok (.iaload, 1) := by decide +kernel
theorem dX6_count_17 : decode cX6_count 17 = .ok (.ifCond .lt 7, 3) := by decide +kernel
theorem dX6_count_20 : decode cX6_count 20 = .ok (.iconst 1, 1) := by decide +kernel
theorem dX6_count_21 : decode cX6_count 21 = .ok (.goto 4, 3) := by decide +kernel
theorem dX6_count_24 : decode cX6_count 24 = .ok (.iconst 0, 1) := by decide +kernel
theorem dX6_count_25 : decode cX6_count 25 = .ok (.iadd, 1) := by decide +kernel
theorem dX6_count_26 : decode cX6_count 26 = .ok (.istore_n 2, 1) := by decide +kernel
theorem dX6_count_27 : decode cX6_count 27 = .ok (.iinc 3 1, 3) := by decide +kernel
theorem dX6_count_30 : decode cX6_count 30 = .ok (.goto (-26), 3) := by decide +kernel
theorem dX6_count_33 : decode cX6_count 33 = .ok (.iconst 0, 1) := by decide +kernel
theorem dX6_count_34 : decode cX6_count 34 = .ok (.istore_n 3, 1) := by decide +kernel
theorem dX6_count_35 : decode cX6_count 35 = .ok (.iconst (-1), 1) := by decide +kernel
theorem dX6_count_36 : decode cX6_count 36 = .ok (.istore 4, 2) := by decide +kernel
theorem dX6_count_38 : decode cX6_count 38 = .ok (.iconst 0, 1) := by decide +kernel
theorem dX6_count_39 : decode cX6_count 39 = .ok (.istore 5, 2) := by decide +kernel
theorem dX6_count_41 : decode cX6_count 41 = .ok (.iload 5, 2) := by decide +kernel
theorem dX6_count_43 : decode cX6_count 43 = .ok (.bipush 24, 2) := by decide +kernel
theorem dX6_count_45 : decode cX6_count 45 = .ok (.if_icmp .ge 44, 3) := by decide +kernel
theorem dX6_count_48 : decode cX6_count 48 = .ok (.iload_n 3, 1) := by decide +kernel
theorem dX6_count_49 : decode cX6_count 49 = .ok (.aload_n 0, 1) := by decide +kernel
theorem dX6_count_50 : decode cX6_count 50 = .ok (.iload 5, 2) := by decide +kernel
theorem dX6_count_52 : decode cX6_count 52 = .ok (.invokevirtual 96, 3) := by decide +kernel
theorem dX6_count_55 : decode cX6_count 55 = .ok (.ifCond .le 7, 3) := by decide +kernel
theorem dX6_count_58 : decode cX6_count 58 = .ok (.iconst 1, 1) := by decide +kernel
theorem dX6_count_59 : decode cX6_count 59 = .ok (.goto 4, 3) := by decide +kernel
theorem dX6_count_62 : decode cX6_count 62 = .ok (.iconst 0, 1) := by decide +kernel
theorem dX6_count_63 : decode cX6_count 63 = .ok (.iadd, 1) := by decide +kernel
theorem dX6_count_64 : decode cX6_count 64 = .ok (.istore_n 3, 1) := by decide +kernel
theorem dX6_count_65 : decode cX6_count 65 = .ok (.aload_n 0, 1) := by decide +kernel
theorem dX6_count_66 : decode cX6_count 66 = .ok (.iload 5, 2) := by decide +kernel
theorem dX6_count_68 : decode cX6_count 68 = .ok (.invokevirtual 96, 3) := by decide +kernel
theorem dX6_count_71 : decode cX6_count 71 = .ok (.ifCond .le 8, 3) := by decide +kernel
theorem dX6_count_74 : decode cX6_count 74 = .ok (.iload 5, 2) := by decide +kernel
theorem dX6_count_76 : decode cX6_count 76 = .ok (.goto 5, 3) := by decide +kernel
theorem dX6_count_79 : decode cX6_count 79 = .ok (.iload 4, 2) := by decide +kernel
theorem dX6_count_81 : decode cX6_count 81 = .ok (.istore 4, 2) := by decide +kernel
theorem dX6_count_83 : decode cX6_count 83 = .ok (.iinc 5 1, 3) := by decide +kernel
theorem dX6_count_86 : decode cX6_count 86 = .ok (.goto (-45), 3) := by decide +kernel
theorem dX6_count_89 : decode cX6_count 89 = .ok (.iload_n 1, 1) := by decide +kernel
theorem dX6_count_90 : decode cX6_count 90 = .ok (.tableswitch 103 0 9 #[54, 59, 67, 72, 74, 79, 84, 91, 98, 101], 54) := by decide +kernel
theorem dX6_count_144 : decode cX6_count 144 = .ok (.aload_n 0, 1) := by decide +kernel
theorem dX6_count_145 : decode cX6_count 145 = .ok (.getfield 7, 3) := by decide +kernel
theorem dX6_count_148 : decode cX6_count 148 = .ok (.ireturn, 1) := by decide +kernel
theorem dX6_count_149 : decode cX6_count 149 = .ok (.aload_n 0, 1) := by decide +kernel
theorem dX6_count_150 : decode cX6_count 150 = .ok (.getfield 14, 3) := by decide +kernel
theorem dX6_count_153 : decode cX6_count 153 = .ok (.invokestatic 75, 3) := by decide +kernel
theorem dX6_count_156 : decode cX6_count 156 = .ok (.ireturn, 1) := by decide +kernel
theorem dX6_count_157 : decode cX6_count 157 = .ok (.aload_n 0, 1) := by decide +kernel
theorem dX6_count_158 : decode cX6_count 158 = .ok (.getfield 58, 3) := by decide +kernel
theorem dX6_count_161 : decode cX6_count 161 = .ok (.ireturn, 1) := by decide +kernel
theorem dX6_count_162 : decode cX6_count 162 = .ok (.iload_n 2, 1) := by decide +kernel
theorem dX6_count_163 : decode cX6_count 163 = .ok (.ireturn, 1) := by decide +kernel
theorem dX6_count_164 : decode cX6_count 164 = .ok (.aload_n 0, 1) := by decide +kernel
theorem dX6_count_165 : decode cX6_count 165 = .ok (.getfield 99, 3) := by decide +kernel
theorem dX6_count_168 : decode cX6_count 168 = .ok (.ireturn, 1) := by decide +kernel
theorem dX6_count_169 : decode cX6_count 169 = .ok (.aload_n 0, 1) := by decide +kernel
theorem dX6_count_170 : decode cX6_count 170 = .ok (.invokevirtual 102, 3) := by decide +kernel
theorem dX6_count_173 : decode cX6_count 173 = .ok (.ireturn, 1) := by decide +kernel
theorem dX6_count_174 : decode cX6_count 174 = .ok (.iload 4, 2) := by decide +kernel
theorem dX6_count_176 : decode cX6_count 176 = .ok (.iconst 1, 1) := by decide +kernel
theorem dX6_count_177 : decode cX6_count 177 = .ok (.iadd, 1) := by decide +kernel
theorem dX6_count_178 : decode cX6_count 178 = .ok (.iload_n 3, 1) := by decide +kernel
theorem dX6_count_179 : decode cX6_count 179 = .ok (.isub, 1) := by decide +kernel
theorem dX6_count_180 : decode cX6_count 180 = .ok (.ireturn, 1) := by decide +kernel
theorem dX6_count_181 : decode cX6_count 181 = .ok (.aload_n 0, 1) := by decide +kernel
theorem dX6_count_182 : decode cX6_count 182 = .ok (.iconst (-1), 1) := by decide +kernel
theorem dX6_count_183 : decode cX6_count 183 = .ok (.iconst 0, 1) := by decide +kernel
theorem dX6_count_184 : decode cX6_count 184 = .ok (.invokevirtual 106, 3) := by decide +kernel
theorem dX6_count_187 : decode cX6_count 187 = .ok (.ireturn, 1) := by decide +kernel
theorem dX6_count_188 : decode cX6_count 188 = .ok (.iload 4, 2) := by decide +kernel
theorem dX6_count_190 : decode cX6_count 190 = .ok (.ireturn, 1) := by decide +kernel
theorem dX6_count_191 : decode cX6_count 191 = .ok (.iload_n 3, 1) := by decide +kernel
theorem dX6_count_192 : decode cX6_count 192 = .ok (.ireturn, 1) := by decide +kernel
theorem dX6_count_193 : decode cX6_count 193 = .ok (.sipush (-1002), 3) := by decide +kernel
theorem dX6_count_196 : decode cX6_count 196 = .ok (.ireturn, 1) := by decide +kernel
theorem dX6_isSpan_0 : decode cX6_isSpan 0 = .ok (.iload_n 0, 1) := by decide +kernel
theorem dX6_isSpan_1 : decode cX6_isSpan 1 = .ok (.invokestatic 81, 3) := by decide +kernel
theorem dX6_isSpan_4 : decode cX6_isSpan 4 = .ok (.ifCond .eq 21, 3) := by decide +kernel
theorem dX6_isSpan_7 : decode cX6_isSpan 7 = .ok (.iload_n 1, 1) := by decide +kernel
theorem dX6_isSpan_8 : decode cX6_isSpan 8 = .ok (.i2l, 1) := by decide +kernel
theorem dX6_isSpan_9 : decode cX6_isSpan 9 = .ok (.lconst 1, 1) := by decide +kernel
theorem dX6_isSpan_10 : decode cX6_isSpan 10 = .ok (.bipush 24, 2) := by decide +kernel
theorem dX6_isSpan_12 : decode cX6_isSpan 12 = .ok (.iload_n 0, 1) := by decide +kernel
theorem dX6_isSpan_13 : decode cX6_isSpan 13 = .ok (.isub, 1) := by decide +kernel
theorem dX6_isSpan_14 : decode cX6_isSpan 14 = .ok (.i2l, 1) := by decide +kernel
theorem dX6_isSpan_15 : decode cX6_isSpan 15 = .ok (.invokestatic 65, 3) := by decide +kernel
theorem dX6_isSpan_18 : decode cX6_isSpan 18 = .ok (.ifCond .eq 7, 3) := by decide +kernel
theorem dX6_isSpan_21 : decode cX6_isSpan 21 = .ok (.iconst 1, 1) := by decide +kernel
theorem dX6_isSpan_22 : decode cX6_isSpan 22 = .ok (.goto 4, 3) := by decide +kernel
theorem dX6_isSpan_25 : decode cX6_isSpan 25 = .ok (.iconst 0, 1) := by decide +kernel
theorem dX6_isSpan_26 : decode cX6_isSpan 26 = .ok (.ireturn, 1) := by decide +kernel
theorem dX6_areHearers_0 : decode cX6_areHearers 0 = .ok (.iconst 1, 1) := by decide +kernel
theorem dX6_areHearers_1 : decode cX6_areHearers 1 = .ok (.istore_n 3, 1) := by decide +kernel
theorem dX6_areHearers_2 : decode cX6_areHearers 2 = .ok (.iload_n 1, 1) := by decide +kernel
theorem dX6_areHearers_3 : decode cX6_areHearers 3 = .ok (.istore 4, 2) := by decide +kernel
theorem dX6_areHearers_5 : decode cX6_areHearers 5 = .ok (.iload 4, 2) := by decide +kernel
theorem dX6_areHearers_7 : decode cX6_areHearers 7 = .ok (.iload_n 1, 1) := by decide +kernel
theorem dX6_areHearers_8 : decode cX6_areHearers 8 = .ok (.iload_n 2, 1) := by decide +kernel
theorem dX6_areHearers_9 : decode cX6_areHearers 9 = .ok (.iadd, 1) := by decide +kernel
theorem dX6_areHearers_10 : decode cX6_areHearers 10 = .ok (.if_icmp .ge 28, 3) := by decide +kernel
theorem dX6_areHearers_13 : decode cX6_areHearers 13 = .ok (.iload_n 3, 1) := by decide +kernel
theorem dX6_areHearers_14 : decode cX6_areHearers 14 = .ok (.ifCond .eq 16, 3) := by decide +kernel
theorem dX6_areHearers_17 : decode cX6_areHearers 17 = .ok (.aload_n 0, 1) := by decide +kernel
theorem dX6_areHearers_18 : decode cX6_areHearers 18 = .ok (.iload 4, 2) := by decide +kernel
theorem dX6_areHearers_20 : decode cX6_areHearers 20 = .ok (.invokevirtual 93, 3) := by decide +kernel
theorem dX6_areHearers_23 : decode cX6_areHearers 23 = .ok (.ifCond .eq 7, 3) := by decide +kernel
theorem dX6_areHearers_26 : decode cX6_areHearers 26 = .ok (.iconst 1, 1) := by decide +kernel
theorem dX6_areHearers_27 : decode cX6_areHearers 27 = .ok (.goto 4, 3) := by decide +kernel
theorem dX6_areHearers_30 : decode cX6_areHearers 30 = .ok (.iconst 0, 1) := by decide +kernel
theorem dX6_areHearers_31 : decode cX6_areHearers 31 = .ok (.istore_n 3, 1) := by decide +kernel
theorem dX6_areHearers_32 : decode cX6_areHearers 32 = .ok (.iinc 4 1, 3) := by decide +kernel
theorem dX6_areHearers_35 : decode cX6_areHearers 35 = .ok (.goto (-30), 3) := by decide +kernel
theorem dX6_areHearers_38 : decode cX6_areHearers 38 = .ok (.iload_n 3, 1) := by decide +kernel
theorem dX6_areHearers_39 : decode cX6_areHearers 39 = .ok (.ireturn, 1) := by decide +kernel
theorem dX6_take_0 : decode cX6_take 0 = .ok (.aload_n 0, 1) := by decide +kernel
theorem dX6_take_1 : decode cX6_take 1 = .ok (.iload_n 2, 1) := by decide +kernel
theorem dX6_take_2 : decode cX6_take 2 = .ok (.putfield 109, 3) := by decide +kernel
theorem dX6_take_5 : decode cX6_take 5 = .ok (.iconst 0, 1) := by decide +kernel
theorem dX6_take_6 : decode cX6_take 6 = .ok (.istore_n 3, 1) := by decide +kernel
theorem dX6_take_7 : decode cX6_take 7 = .ok (.iload_n 3, 1) := by decide +kernel
