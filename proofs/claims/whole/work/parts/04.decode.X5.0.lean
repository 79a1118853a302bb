theorem dX5_init_0 : decode cX5_init 0 = .ok (.aload_n 0, 1) := by decide +kernel
theorem dX5_init_1 : decode cX5_init 1 = .ok (.invokespecial 3, 3) := by decide +kernel
theorem dX5_init_4 : decode cX5_init 4 = .ok (.aload_n 0, 1) := by decide +kernel
theorem dX5_init_5 : decode cX5_init 5 = .ok (.new 9, 3) := by decide +kernel
theorem dX5_init_8 : decode cX5_init 8 = .ok (.dup, 1) := by decide +kernel
theorem dX5_init_9 : decode cX5_init 9 = .ok (.invokespecial 11, 3) := by decide +kernel
theorem dX5_init_12 : decode cX5_init 12 = .ok (.putfield 12, 3) := by decide +kernel
theorem dX5_init_15 : decode cX5_init 15 = .ok (.aload_n 0, 1) := by decide +kernel
theorem dX5_init_16 : decode cX5_init 16 = .ok (.new 16, 3) := by decide +kernel
theorem dX5_init_19 : decode cX5_init 19 = .ok (.dup, 1) := by decide +kernel
theorem dX5_init_20 : decode cX5_init 20 = .ok (.aload_n 0, 1) := by decide +kernel
theorem dX5_init_21 : decode cX5_init 21 = .ok (.getfield 12, 3) := by decide +kernel
theorem dX5_init_24 : decode cX5_init 24 = .ok (.invokespecial 18, 3) := by decide +kernel
theorem dX5_init_27 : decode cX5_init 27 = .ok (.putfield 21, 3) := by decide +kernel
theorem dX5_init_30 : decode cX5_init 30 = .ok (.aload_n 0, 1) := by decide +kernel
theorem dX5_init_31 : decode cX5_init 31 = .ok (.new 25, 3) := by decide +kernel
theorem dX5_init_34 : decode cX5_init 34 = .ok (.dup, 1) := by decide +kernel
theorem dX5_init_35 : decode cX5_init 35 = .ok (.aload_n 0, 1) := by decide +kernel
theorem dX5_init_36 : decode cX5_init 36 = .ok (.getfield 12, 3) := by decide +kernel
theorem dX5_init_39 : decode cX5_init 39 = .ok (.invokespecial 27, 3) := by decide +kernel
theorem dX5_init_42 : decode cX5_init 42 = .ok (.putfield 28, 3) := by decide +kernel
theorem dX5_init_45 : decode cX5_init 45 = .ok (.aload_n 0, 1) := by decide +kernel
theorem dX5_init_46 : decode cX5_init 46 = .ok (.new 32, 3) := by decide +kernel
theorem dX5_init_49 : decode cX5_init 49 = .ok (.dup, 1) := by decide +kernel
theorem dX5_init_50 : decode cX5_init 50 = .ok (.invokespecial 34, 3) := by decide +kernel
theorem dX5_init_53 : decode cX5_init 53 = .ok (.putfield 35, 3) := by decide +kernel
theorem dX5_init_56 : decode cX5_init 56 = .ok (.return_, 1) := by decide +kernel
theorem dX5_prime_0 : decode cX5_prime 0 = .ok (.iload_n 1, 1) := by decide +kernel
theorem dX5_prime_1 : decode cX5_prime 1 = .ok (.invokestatic 39, 3) := by decide +kernel
theorem dX5_prime_4 : decode cX5_prime 4 = .ok (.ifCond .ne 7, 3) := by decide +kernel
theorem dX5_prime_7 : decode cX5_prime 7 = .ok (.sipush (-1002), 3) := by decide +kernel
theorem dX5_prime_10 : decode cX5_prime 10 = .ok (.ireturn, 1) := by decide +kernel
theorem dX5_prime_11 : decode cX5_prime 11 = .ok (.aload_n 0, 1) := by decide +kernel
theorem dX5_prime_12 : decode cX5_prime 12 = .ok (.getfield 12, 3) := by decide +kernel
theorem dX5_prime_15 : decode cX5_prime 15 = .ok (.getfield 43, 3) := by decide +kernel
theorem dX5_prime_18 : decode cX5_prime 18 = .ok (.istore_n 2, 1) := by decide +kernel
theorem dX5_prime_19 : decode cX5_prime 19 = .ok (.aload_n 0, 1) := by decide +kernel
theorem dX5_prime_20 : decode cX5_prime 20 = .ok (.getfield 12, 3) := by decide +kernel
theorem dX5_prime_23 : decode cX5_prime 23 = .ok (.iload_n 1, 1) := by decide +kernel
theorem dX5_prime_24 : decode cX5_prime 24 = .ok (.invokevirtual 47, 3) := by decide +kernel
theorem dX5_prime_27 : decode cX5_prime 27 = .ok (.aload_n 0, 1) := by decide +kernel
theorem dX5_prime_28 : decode cX5_prime 28 = .ok (.getfield 21, 3) := by decide +kernel
theorem dX5_prime_31 : decode cX5_prime 31 = .ok (.invokevirtual 51, 3) := by decide +kernel
theorem dX5_prime_34 : decode cX5_prime 34 = .ok (.iload_n 2, 1) := by decide +kernel
theorem dX5_prime_35 : decode cX5_prime 35 = .ok (.ireturn, 1) := by decide +kernel
theorem dX5_hearers_0 : decode cX5_hearers 0 = .ok (.iload_n 1, 1) := by decide +kernel
theorem dX5_hearers_1 : decode cX5_hearers 1 = .ok (.ifCond .lt 9, 3) := by decide +kernel
theorem dX5_hearers_4 : decode cX5_hearers 4 = .ok (.iload_n 1, 1) := by decide +kernel
theorem dX5_hearers_5 : decode cX5_hearers 5 = .ok (.ldc 54, 2) := by decide +kernel
theorem dX5_hearers_7 : decode cX5_hearers 7 = .ok (.if_icmp .lt 7, 3) := by decide +kernel
theorem dX5_hearers_10 : decode cX5_hearers 10 = .ok (.sipush (-1002), 3) := by decide +kernel
theorem dX5_hearers_13 : decode cX5_hearers 13 = .ok (.ireturn, 1) := by decide +kernel
theorem dX5_hearers_14 : decode cX5_hearers 14 = .ok (.aload_n 0, 1) := by decide +kernel
theorem dX5_hearers_15 : decode cX5_hearers 15 = .ok (.getfield 21, 3) := by decide +kernel
theorem dX5_hearers_18 : decode cX5_hearers 18 = .ok (.iload_n 1, 1) := by decide +kernel
theorem dX5_hearers_19 : decode cX5_hearers 19 = .ok (.putfield 55, 3) := by decide +kernel
theorem dX5_hearers_22 : decode cX5_hearers 22 = .ok (.iload_n 1, 1) := by decide +kernel
theorem dX5_hearers_23 : decode cX5_hearers 23 = .ok (.invokestatic 58, 3) := by decide +kernel
theorem dX5_hearers_26 : decode cX5_hearers 26 = .ok (.ireturn, 1) := by decide +kernel
theorem dX5_sender_0 : decode cX5_sender 0 = .ok (.aload_n 0, 1) := by decide +kernel
theorem dX5_sender_1 : decode cX5_sender 1 = .ok (.getfield 12, 3) := by decide +kernel
theorem dX5_sender_4 : decode cX5_sender 4 = .ok (.iload_n 1, 1) := by decide +kernel
theorem dX5_sender_5 : decode cX5_sender 5 = .ok (.invokevirtual 64, 3) := by decide +kernel
theorem dX5_sender_8 : decode cX5_sender 8 = .ok (.ifCond .eq 14, 3) := by decide +kernel
theorem dX5_sender_11 : decode cX5_sender 11 = .ok (.aload_n 0, 1) := by decide +kernel
theorem dX5_sender_12 : decode cX5_sender 12 = .ok (.getfield 12, 3) := by decide +kernel
theorem dX5_sender_15 : decode cX5_sender 15 = .ok (.iload_n 2, 1) := by decide +kernel
theorem dX5_sender_16 : decode cX5_sender 16 = .ok (.invokevirtual 64, 3) := by decide +kernel
theorem dX5_sender_19 : decode cX5_sender 19 = .ok (.ifCond .ne 7, 3) := by decide +kernel
theorem dX5_sender_22 : decode cX5_sender 22 = .ok (.sipush (-1002), 3) := by decide +kernel
theorem dX5_sender_25 : decode cX5_sender 25 = .ok (.ireturn, 1) := by decide +kernel
theorem dX5_sender_26 : decode cX5_sender 26 = .ok (.aload_n 0, 1) := by decide +kernel
theorem dX5_sender_27 : decode cX5_sender 27 = .ok (.getfield 21, 3) := by decide +kernel
theorem dX5_sender_30 : decode cX5_sender 30 = .ok (.iload_n 1, 1) := by decide +kernel
theorem dX5_sender_31 : decode cX5_sender 31 = .ok (.invokevirtual 67, 3) := by decide +kernel
theorem dX5_sender_34 : decode cX5_sender 34 = .ok (.ifCond .eq 7, 3) := by decide +kernel
theorem dX5_sender_37 : decode cX5_sender 37 = .ok (.sipush (-1003), 3) := by decide +kernel
theorem dX5_sender_40 : decode cX5_sender 40 = .ok (.ireturn, 1) := by decide +kernel
theorem dX5_sender_41 : decode cX5_sender 41 = .ok (.aload_n 0, 1) := by decide +kernel
theorem dX5_sender_42 : decode cX5_sender 42 = .ok (.getfield 21, 3) := by decide +kernel
theorem dX5_sender_45 : decode cX5_sender 45 = .ok (.getfield 70, 3) := by decide +kernel
theorem dX5_sender_48 : decode cX5_sender 48 = .ok (.bipush 8, 2) := by decide +kernel
theorem dX5_sender_50 : decode cX5_sender 50 = .ok (.if_icmp .lt 7, 3) := by decide +kernel
theorem dX5_sender_53 : decode cX5_sender 53 = .ok (.sipush (-1004), 3) := by decide +kernel
theorem dX5_sender_56 : decode cX5_sender 56 = .ok (.ireturn, 1) := by decide +kernel
theorem dX5_sender_57 : decode cX5_sender 57 = .ok (.aload_n 0, 1) := by decide +kernel
theorem dX5_sender_58 : decode cX5_sender 58 = .ok (.getfield 21, 3) := by decide +kernel
theorem dX5_sender_61 : decode cX5_sender 61 = .ok (.iload_n 1, 1) := by decide +kernel
theorem dX5_sender_62 : decode cX5_sender 62 = .ok (.iload_n 2, 1) := by decide +kernel
theorem dX5_sender_63 : decode cX5_sender 63 = .ok (.invokevirtual 73, 3) := by decide +kernel
theorem dX5_sender_66 : decode cX5_sender 66 = .ok (.ireturn, 1) := by decide +kernel
theorem dX5_drop_0 : decode cX5_drop 0 = .ok (.aload_n 0, 1) := by decide +kernel
theorem dX5_drop_1 : decode cX5_drop 1 = .ok (.getfield 21, 3) := by decide +kernel
theorem dX5_drop_4 : decode cX5_drop 4 = .ok (.getfield 70, 3) := by decide +kernel
theorem dX5_drop_7 : decode cX5_drop 7 = .ok (.iconst 1, 1) := by decide +kernel
theorem dX5_drop_8 : decode cX5_drop 8 = .ok (.if_icmp .ge 9, 3) := by decide +kernel
theorem dX5_drop_11 : decode cX5_drop 11 = .ok (.sipush (-1003), 3) := by decide +kernel
theorem dX5_drop_14 : decode cX5_drop 14 = .ok (.goto 10, 3) := by decide +kernel
theorem dX5_drop_17 : decode cX5_drop 17 = .ok (.aload_n 0, 1) := by decide +kernel
theorem dX5_drop_18 : decode cX5_drop 18 = .ok (.getfield 21, 3) := by decide +kernel
theorem dX5_drop_21 : decode cX5_drop 21 = .ok (.invokevirtual 77, 3) := by decide +kernel
theorem dX5_drop_24 : decode cX5_drop 24 = .ok (.ireturn, 1) := by decide +kernel
theorem dX5_gain_0 : decode cX5_gain 0 = .ok (.iload_n 1, 1) := by decide +kernel
theorem dX5_gain_1 : decode cX5_gain 1 = .ok (.invokestatic 81, 3) := by decide +kernel
theorem dX5_gain_4 : decode cX5_gain 4 = .ok (.ifCond .eq 14, 3) := by decide +kernel
theorem dX5_gain_7 : decode cX5_gain 7 = .ok (.aload_n 0, 1) := by decide +kernel
theorem dX5_gain_8 : decode cX5_gain 8 = .ok (.getfield 12, 3) := by decide +kernel
theorem dX5_gain_11 : decode cX5_gain 11 = .ok (.iload_n 2, 1) := by decide +kernel
theorem dX5_gain_12 : decode cX5_gain 12 = .ok (.invokevirtual 64, 3) := by decide +kernel
theorem dX5_gain_15 : decode cX5_gain 15 = .ok (.ifCond .ne 7, 3) := by decide +kernel
theorem dX5_gain_18 : decode cX5_gain 18 = .ok (.sipush (-1002), 3) := by decide +kernel
theorem dX5_gain_21 : decode cX5_gain 21 = .ok (.ireturn, 1) := by decide +kernel
theorem dX5_gain_22 : decode cX5_gain 22 = .ok (.aload_n 0, 1) := by decide +kernel
theorem dX5_gain_23 : decode cX5_gain 23 = .ok (.getfield 21, 3) := by decide +kernel
theorem dX5_gain_26 : decode cX5_gain 26 = .ok (.getfield 84, 3) := by decide +kernel
theorem dX5_gain_29 : decode cX5_gain 29 = .ok (.iload_n 1, 1) := by decide +kernel
theorem dX5_gain_30 : decode cX5_gain 30 = .ok (.iaload, 1) := by decide +kernel
theorem dX5_gain_31 : decode cX5_gain 31 = .ok (.istore_n 3, 1) := by decide +kernel
theorem dX5_gain_32 : decode cX5_gain 32 = .ok (.aload_n 0, 1) := by decide +kernel
theorem dX5_gain_33 : decode cX5_gain 33 = .ok (.getfield 21, 3) := by decide +kernel
theorem dX5_gain_36 : decode cX5_gain 36 = .ok (.getfield 84, 3) := by decide +kernel
theorem dX5_gain_39 : decode cX5_gain 39 = .ok (.iload_n 1, 1) := by decide +kernel
theorem dX5_gain_40 : decode cX5_gain 40 = .ok (.iload_n 2, 1) := by decide +kernel
theorem dX5_gain_41 : decode cX5_gain 41 = .ok (.iastore, 1) := by decide +kernel
theorem dX5_gain_42 : decode cX5_gain 42 = .ok (.iload_n 3, 1) := by decide +kernel
theorem dX5_gain_43 : decode cX5_gain 43 = .ok (.ireturn, 1) := by decide +kernel
theorem dX5_read_0 : decode cX5_read 0 = .ok (.iload_n 1, 1) := by decide +kernel
theorem dX5_read_1 : decode cX5_read 1 = .ok (.invokestatic 81, 3) := by decide +kernel
theorem dX5_read_4 : decode cX5_read 4 = .ok (.ifCond .eq 19, 3) := by decide +kernel
theorem dX5_read_7 : decode cX5_read 7 = .ok (.iload_n 2, 1) := by decide +kernel
theorem dX5_read_8 : decode cX5_read 8 = .ok (.iconst (-1), 1) := by decide +kernel
theorem dX5_read_9 : decode cX5_read 9 = .ok (.if_icmp .lt 14, 3) := by decide +kernel
theorem dX5_read_12 : decode cX5_read 12 = .ok (.iload_n 2, 1) := by decide +kernel
theorem dX5_read_13 : decode cX5_read 13 = .ok (.aload_n 0, 1) := by decide +kernel
theorem dX5_read_14 : decode cX5_read 14 = .ok (.getfield 12, 3) := by decide +kernel
theorem dX5_read_17 : decode cX5_read 17 = .ok (.getfield 43, 3) := by decide +kernel
theorem dX5_read_20 : decode cX5_read 20 = .ok (.if_icmp .lt 7, 3) := by decide +kernel
theorem dX5_read_23 : decode cX5_read 23 = .ok (.sipush (-1002), 3) := by decide +kernel
theorem dX5_read_26 : decode cX5_read 26 = .ok (.ireturn, 1) := by decide +kernel
theorem dX5_read_27 : decode cX5_read 27 = .ok (.aload_n 0, 1) := by decide +kernel
theorem dX5_read_28 : decode cX5_read 28 = .ok (.getfield 21, 3) := by decide +kernel
theorem dX5_read_31 : decode cX5_read 31 = .ok (.getfield 88, 3) := by decide +kernel
theorem dX5_read_34 : decode cX5_read 34 = .ok (.iload_n 1, 1) := by decide +kernel
theorem dX5_read_35 : decode cX5_read 35 = .ok (.iload_n 2, 1) := by decide +kernel
theorem dX5_read_36 : decode cX5_read 36 = .ok (.iastore, 1) := by decide +kernel
theorem dX5_read_37 : decode cX5_read 37 = .ok (.aload_n 0, 1) := by decide +kernel
theorem dX5_read_38 : decode cX5_read 38 = .ok (.getfield 21, 3) := by decide +kernel
theorem dX5_read_41 : decode cX5_read 41 = .ok (.iload_n 1, 1) := by decide +kernel
theorem dX5_read_42 : decode cX5_read 42 = .ok (.invokevirtual 91, 3) := by decide +kernel
theorem dX5_read_45 : decode cX5_read 45 = .ok (.ireturn, 1) := by decide +kernel
theorem dX5_heard_0 : decode cX5_heard 0 = .ok (.iload_n 1, 1) := by decide +kernel
theorem dX5_heard_1 : decode cX5_heard 1 = .ok (.invokestatic 81, 3) := by decide +kernel
theorem dX5_heard_4 : decode cX5_heard 4 = .ok (.ifCond .ne 7, 3) := by decide +kernel
theorem dX5_heard_7 : decode cX5_heard 7 = .ok (.sipush (-1002), 3) := by decide +kernel
theorem dX5_heard_10 : decode cX5_heard 10 = .ok (.ireturn, 1) := by decide +kernel
theorem dX5_heard_11 : decode cX5_heard 11 = .ok (.aload_n 0, 1) := by decide +kernel
theorem dX5_heard_12 : decode cX5_heard 12 = .ok (.getfield 21, 3) := by decide +kernel
theorem dX5_heard_15 : decode cX5_heard 15 = .ok (.iload_n 1, 1) := by decide +kernel
theorem dX5_heard_16 : decode cX5_heard 16 = .ok (.invokevirtual 94, 3) := by decide +kernel
theorem dX5_heard_19 : decode cX5_heard 19 = .ok (.ifCond .eq 14, 3) := by decide +kernel
theorem dX5_heard_22 : decode cX5_heard 22 = .ok (.aload_n 0, 1) := by decide +kernel
theorem dX5_heard_23 : decode cX5_heard 23 = .ok (.getfield 21, 3) := by decide +kernel
theorem dX5_heard_26 : decode cX5_heard 26 = .ok (.iload_n 1, 1) := by decide +kernel
theorem dX5_heard_27 : decode cX5_heard 27 = .ok (.invokevirtual 91, 3) := by decide +kernel
theorem dX5_heard_30 : decode cX5_heard 30 = .ok (.goto 6, 3) := by decide +kernel
theorem dX5_heard_33 : decode cX5_heard 33 = .ok (.sipush (-1003), 3) := by decide +kernel
theorem dX5_heard_36 : decode cX5_heard 36 = .ok (.ireturn, 1) := by decide +kernel
theorem dX5_count_0 : decode cX5_count 0 = .ok (.iload_n 1, 1) := by decide +kernel
theorem dX5_count_1 : decode cX5_count 1 = .ok (.tableswitch 150 0 9 #[55, 63, 74, 82, 90, 98, 109, 120, 128, 139], 55) := by decide +kernel
theorem dX5_count_56 : decode cX5_count 56 = .ok (.aload_n 0, 1) := by decide +kernel
theorem dX5_count_57 : decode cX5_count 57 = .ok (.getfield 12, 3) := by decide +kernel
theorem dX5_count_60 : decode cX5_count 60 = .ok (.getfield 43, 3) := by decide +kernel
theorem dX5_count_63 : decode cX5_count 63 = .ok (.ireturn, 1) := by decide +kernel
theorem dX5_count_64 : decode cX5_count 64 = .ok (.aload_n 0, 1) := by decide +kernel
theorem dX5_count_65 : decode cX5_count 65 = .ok (.getfield 21, 3) := by decide +kernel
theorem dX5_count_68 : decode cX5_count 68 = .ok (.getfield 55, 3) := by decide +kernel
theorem dX5_count_71 : decode cX5_count 71 = .ok (.invokestatic 58, 3) := by decide +kernel
theorem dX5_count_74 : decode cX5_count 74 = .ok (.ireturn, 1) := by decide +kernel
theorem dX5_count_75 : decode cX5_count 75 = .ok (.aload_n 0, 1) := by decide +kernel
theorem dX5_count_76 : decode cX5_count 76 = .ok (.getfield 21, 3) := by decide +kernel
theorem dX5_count_79 : decode cX5_count 79 = .ok (.getfield 70, 3) := by decide +kernel
theorem dX5_count_82 : decode cX5_count 82 = .ok (.ireturn, 1) := by decide +kernel
theorem dX5_count_83 : decode cX5_count 83 = .ok (.aload_n 0, 1) := by decide +kernel
theorem dX5_count_84 : decode cX5_count 84 = .ok (.getfield 21, 3) := by decide +kernel
theorem dX5_count_87 : decode cX5_count 87 = .ok (.invokevirtual 97, 3) := by decide +kernel
theorem dX5_count_90 : decode cX5_count 90 = .ok (.ireturn, 1) := by decide +kernel
theorem dX5_count_91 : decode cX5_count 91 = .ok (.aload_n 0, 1) := by decide +kernel
theorem dX5_count_92 : decode cX5_count 92 = .ok (.getfield 35, 3) := by decide +kernel
theorem dX5_count_95 : decode cX5_count 95 = .ok (.getfield 100, 3) := by decide +kernel
theorem dX5_count_98 : decode cX5_count 98 = .ok (.ireturn, 1) := by decide +kernel
theorem dX5_count_99 : decode cX5_count 99 = .ok (.aload_n 0, 1) := by decide +kernel
theorem dX5_count_100 : decode cX5_count 100 = .ok (.getfield 21, 3) := by decide +kernel
theorem dX5_count_103 : decode cX5_count 103 = .ok (.getfield 55, 3) := by decide +kernel
theorem dX5_count_106 : decode cX5_count 106 = .ok (.invokestatic 103, 3) := by decide +kernel
theorem dX5_count_109 : decode cX5_count 109 = .ok (.ireturn, 1) := by decide +kernel
theorem dX5_count_110 : decode cX5_count 110 = .ok (.aload_n 0, 1) := by decide +kernel
theorem dX5_count_111 : decode cX5_count 111 = .ok (.getfield 21, 3) := by decide +kernel
theorem dX5_count_114 : decode cX5_count 114 = .ok (.getfield 55, 3) := by decide +kernel
theorem dX5_count_117 : decode cX5_count 117 = .ok (.invokestatic 108, 3) := by decide +kernel
theorem dX5_count_120 : decode cX5_count 120 = .ok (.ireturn, 1) := by decide +kernel
theorem dX5_count_121 : decode cX5_count 121 = .ok (.aload_n 0, 1) := by decide +kernel
theorem dX5_count_122 : decode cX5_count 122 = .ok (.getfield 21, 3) := by decide +kernel
theorem dX5_count_125 : decode cX5_count 125 = .ok (.invokevirtual 111, 3) := by decide +kernel
theorem dX5_count_128 : decode cX5_count 128 = .ok (.ireturn, 1) := by decide +kernel
theorem dX5_count_129 : decode cX5_count 129 = .ok (.aload_n 0, 1) := by decide +kernel
theorem dX5_count_130 : decode cX5_count 130 = .ok (.getfield 21, 3) := by decide +kernel
theorem dX5_count_133 : decode cX5_count 133 = .ok (.getfield 55, 3) := by decide +kernel
theorem dX5_count_136 : decode cX5_count 136 = .ok (.invokestatic 114, 3) := by decide +kernel
theorem dX5_count_139 : decode cX5_count 139 = .ok (.ireturn, 1) := by decide +kernel
theorem dX5_count_140 : decode cX5_count 140 = .ok (.aload_n 0, 1) := by decide +kernel
theorem dX5_count_141 : decode cX5_count 141 = .ok (.getfield 21, 3) := by decide +kernel
theorem dX5_count_144 : decode cX5_count 144 = .ok (.getfield 55, 3) := by decide +kernel
theorem dX5_count_147 : decode cX5_count 147 = .ok (.invokestatic 117, 3) := by decide +kernel
theorem dX5_count_150 : decode cX5_count 150 = .ok (.ireturn, 1) := by decide +kernel
theorem dX5_count_151 : decode cX5_count 151 = .ok (.sipush (-1002), 3) := by decide +kernel
theorem dX5_count_154 : decode cX5_count 154 = .ok (.ireturn, 1) := by decide +kernel
theorem dX5_order_0 : decode cX5_order 0 = .ok (.aload_n 0, 1) := by decide +kernel
theorem dX5_order_1 : decode cX5_order 1 = .ok (.iload_n 1, 1) := by decide +kernel
theorem dX5_order_2 : decode cX5_order 2 = .ok (.iload_n 2, 1) := by decide +kernel
theorem dX5_order_3 : decode cX5_order 3 = .ok (.invokevirtual 120, 3) := by decide +kernel
theorem dX5_order_6 : decode cX5_order 6 = .ok (.istore_n 3, 1) := by decide +kernel
theorem dX5_order_7 : decode cX5_order 7 = .ok (.iload_n 3, 1) := by decide +kernel
theorem dX5_order_8 : decode cX5_order 8 = .ok (.ifCond .eq 5, 3) := by decide +kernel
theorem dX5_order_11 : decode cX5_order 11 = .ok (.iload_n 3, 1) := by decide +kernel
theorem dX5_order_12 : decode cX5_order 12 = .ok (.ireturn, 1) := by decide +kernel
theorem dX5_order_13 : decode cX5_order 13 = .ok (.aload_n 0, 1) := by decide +kernel
theorem dX5_order_14 : decode cX5_order 14 = .ok (.iload_n 1, 1) := by decide +kernel
theorem dX5_order_15 : decode cX5_order 15 = .ok (.iload_n 2, 1) := by decide +kernel
theorem dX5_order_16 : decode cX5_order 16 = .ok (.invokevirtual 123, 3) := by decide +kernel
theorem dX5_order_19 : decode cX5_order 19 = .ok (.aload_n 0, 1) := by decide +kernel
theorem dX5_order_20 : decode cX5_order 20 = .ok (.getfield 28, 3) := by decide +kernel
theorem dX5_order_23 : decode cX5_order 23 = .ok (.getfield 127, 3) := by decide +kernel
theorem dX5_order_26 : decode cX5_order 26 = .ok (.ireturn, 1) := by decide +kernel
theorem dX5_law_0 : decode cX5_law 0 = .ok (.iload_n 3, 1) := by decide +kernel
theorem dX5_law_1 : decode cX5_law 1 = .ok (.ifCond .ge 7, 3) := by decide +kernel
theorem dX5_law_4 : decode cX5_law 4 = .ok (.sipush (-1002), 3) := by decide +kernel
theorem dX5_law_7 : decode cX5_law 7 = .ok (.ireturn, 1) := by decide +kernel
theorem dX5_law_8 : decode cX5_law 8 = .ok (.aload_n 0, 1) := by decide +kernel
theorem dX5_law_9 : decode cX5_law 9 = .ok (.iload_n 1, 1) := by decide +kernel
theorem dX5_law_10 : decode cX5_law 10 = .ok (.iload_n 2, 1) := by decide +kernel
theorem dX5_law_11 : decode cX5_law 11 = .ok (.invokevirtual 120, 3) := by decide +kernel
theorem dX5_law_14 : decode cX5_law 14 = .ok (.istore 4, 2) := by decide +kernel
theorem dX5_law_16 : decode cX5_law 16 = .ok (.iload 4, 2) := by decide +kernel
theorem dX5_law_18 : decode cX5_law 18 = .ok (.ifCond .eq 6, 3) := by decide +kernel
theorem dX5_law_21 : decode cX5_law 21 = .ok (.iload 4, 2) := by decide +kernel
theorem dX5_law_23 : decode cX5_law 23 = .ok (.ireturn, 1) := by decide +kernel
theorem dX5_law_24 : decode cX5_law 24 = .ok (.aload_n 0, 1) := by decide +kernel
theorem dX5_law_25 : decode cX5_law 25 = .ok (.iload_n 1, 1) := by decide +kernel
theorem dX5_law_26 : decode cX5_law 26 = .ok (.iload_n 2, 1) := by decide +kernel
theorem dX5_law_27 : decode cX5_law 27 = .ok (.invokevirtual 123, 3) := by decide +kernel
theorem dX5_law_30 : decode cX5_law 30 = .ok (.iload_n 3, 1) := by decide +kernel
theorem dX5_law_31 : decode cX5_law 31 = .ok (.aload_n 0, 1) := by decide +kernel
theorem dX5_law_32 : decode cX5_law 32 = .ok (.getfield 28, 3) := by decide +kernel
theorem dX5_law_35 : decode cX5_law 35 = .ok (.getfield 127, 3) := by decide +kernel
theorem dX5_law_38 : decode cX5_law 38 = .ok (.if_icmp .le 7, 3) := by decide +kernel
theorem dX5_law_41 : decode cX5_law 41 = .ok (.sipush (-1002), 3) := by decide +kernel
theorem dX5_law_44 : decode cX5_law 44 = .ok (.ireturn, 1) := by decide +kernel
theorem dX5_law_45 : decode cX5_law 45 = .ok (.iload_n 3, 1) := by decide +kernel
theorem dX5_law_46 : decode cX5_law 46 = .ok (.ifCond .ne 19, 3) := by decide +kernel
theorem dX5_law_49 : decode cX5_law 49 = .ok (.aload_n 0, 1) := by decide +kernel
theorem dX5_law_50 : decode cX5_law 50 = .ok (.getfield 28, 3) := by decide +kernel
theorem dX5_law_53 : decode cX5_law 53 = .ok (.invokevirtual 130, 3) := by decide +kernel
theorem dX5_law_56 : decode cX5_law 56 = .ok (.ifCond .eq 7, 3) := by decide +kernel
theorem dX5_law_59 : decode cX5_law 59 = .ok (.iconst 1, 1) := by decide +kernel
theorem dX5_law_60 : decode cX5_law 60 = .ok (.goto 4, 3) := by decide +kernel
theorem dX5_law_63 : decode cX5_law 63 = .ok (.iconst 0, 1) := by decide +kernel
theorem dX5_law_64 : decode cX5_law 64 = .ok (.ireturn, 1) := by decide +kernel
theorem dX5_law_65 : decode cX5_law 65 = .ok (.aload_n 0, 1) := by decide +kernel
theorem dX5_law_66 : decode cX5_law 66 = .ok (.getfield 28, 3) := by decide +kernel
theorem dX5_law_69 : decode cX5_law 69 = .ok (.invokevirtual 130, 3) := by decide +kernel
theorem dX5_law_72 : decode cX5_law 72 = .ok (.ifCond .eq 14, 3) := by decide +kernel
theorem dX5_law_75 : decode cX5_law 75 = .ok (.aload_n 0, 1) := by decide +kernel
theorem dX5_law_76 : decode cX5_law 76 = .ok (.getfield 28, 3) := by decide +kernel
theorem dX5_law_79 : decode cX5_law 79 = .ok (.iload_n 3, 1) := by decide +kernel
theorem dX5_law_80 : decode cX5_law 80 = .ok (.invokevirtual 134, 3) := by decide +kernel
theorem dX5_law_83 : decode cX5_law 83 = .ok (.goto 6, 3) := by decide +kernel
theorem dX5_law_86 : decode cX5_law 86 = .ok (.sipush (-1003), 3) := by decide +kernel
theorem dX5_law_89 : decode cX5_law 89 = .ok (.ireturn, 1) := by decide +kernel
theorem dX5_slant_0 : decode cX5_slant 0 = .ok (.aload_n 0, 1) := by decide +kernel
theorem dX5_slant_1 : decode cX5_slant 1 = .ok (.iload_n 1, 1) := by decide +kernel
theorem dX5_slant_2 : decode cX5_slant 2 = .ok (.iload_n 2, 1) := by decide +kernel
theorem dX5_slant_3 : decode cX5_slant 3 = .ok (.invokevirtual 137, 3) := by decide +kernel
theorem dX5_slant_6 : decode cX5_slant 6 = .ok (.istore 4, 2) := by decide +kernel
theorem dX5_slant_8 : decode cX5_slant 8 = .ok (.iload 4, 2) := by decide +kernel
theorem dX5_slant_10 : decode cX5_slant 10 = .ok (.ifCond .eq 6, 3) := by decide +kernel
theorem dX5_slant_13 : decode cX5_slant 13 = .ok (.iload 4, 2) := by decide +kernel
theorem dX5_slant_15 : decode cX5_slant 15 = .ok (.ireturn, 1) := by decide +kernel
theorem dX5_slant_16 : decode cX5_slant 16 = .ok (.iload_n 3, 1) := by decide +kernel
theorem dX5_slant_17 : decode cX5_slant 17 = .ok (.iconst (-1), 1) := by decide +kernel
theorem dX5_slant_18 : decode cX5_slant 18 = .ok (.if_icmp .ne 13, 3) := by decide +kernel
theorem dX5_slant_21 : decode cX5_slant 21 = .ok (.aload_n 0, 1) := by decide +kernel
theorem dX5_slant_22 : decode cX5_slant 22 = .ok (.getfield 28, 3) := by decide +kernel
theorem dX5_slant_25 : decode cX5_slant 25 = .ok (.getfield 140, 3) := by decide +kernel
theorem dX5_slant_28 : decode cX5_slant 28 = .ok (.goto 11, 3) := by decide +kernel
theorem dX5_slant_31 : decode cX5_slant 31 = .ok (.aload_n 0, 1) := by decide +kernel
theorem dX5_slant_32 : decode cX5_slant 32 = .ok (.getfield 28, 3) := by decide +kernel
theorem dX5_slant_35 : decode cX5_slant 35 = .ok (.iload_n 3, 1) := by decide +kernel
theorem dX5_slant_36 : decode cX5_slant 36 = .ok (.invokevirtual 143, 3) := by decide +kernel
theorem dX5_slant_39 : decode cX5_slant 39 = .ok (.ireturn, 1) := by decide +kernel
theorem dX5_strength_0 : decode cX5_strength 0 = .ok (.aload_n 0, 1) := by decide +kernel
theorem dX5_strength_1 : decode cX5_strength 1 = .ok (.iload_n 1, 1) := by decide +kernel
theorem dX5_strength_2 : decode cX5_strength 2 = .ok (.iload_n 2, 1) := by decide +kernel
theorem dX5_strength_3 : decode cX5_strength 3 = .ok (.invokevirtual 137, 3) := by decide +kernel
theorem dX5_strength_6 : decode cX5_strength 6 = .ok (.istore 4, 2) := by decide +kernel
theorem dX5_strength_8 : decode cX5_strength 8 = .ok (.iload 4, 2) := by decide +kernel
theorem dX5_strength_10 : decode cX5_strength 10 = .ok (.ifCond .eq 6, 3) := by decide +kernel
theorem dX5_strength_13 : decode cX5_strength 13 = .ok (.iload 4, 2) := by decide +kernel
theorem dX5_strength_15 : decode cX5_strength 15 = .ok (.ireturn, 1) := by decide +kernel
theorem dX5_strength_16 : decode cX5_strength 16 = .ok (.aload_n 0, 1) := by decide +kernel
theorem dX5_strength_17 : decode cX5_strength 17 = .ok (.getfield 28, 3) := by decide +kernel
theorem dX5_strength_20 : decode cX5_strength 20 = .ok (.iload_n 3, 1) := by decide +kernel
theorem dX5_strength_21 : decode cX5_strength 21 = .ok (.invokevirtual 143, 3) := by decide +kernel
theorem dX5_strength_24 : decode cX5_strength 24 = .ok (.istore 5, 2) := by decide +kernel
theorem dX5_strength_26 : decode cX5_strength 26 = .ok (.iload 5, 2) := by decide +kernel
theorem dX5_strength_28 : decode cX5_strength 28 = .ok (.iconst (-1), 1) := by decide +kernel
theorem dX5_strength_29 : decode cX5_strength 29 = .ok (.if_icmp .eq 26, 3) := by decide +kernel
theorem dX5_strength_32 : decode cX5_strength 32 = .ok (.aload_n 0, 1) := by decide +kernel
theorem dX5_strength_33 : decode cX5_strength 33 = .ok (.getfield 28, 3) := by decide +kernel
theorem dX5_strength_36 : decode cX5_strength 36 = .ok (.invokevirtual 146, 3) := by decide +kernel
theorem dX5_strength_39 : decode cX5_strength 39 = .ok (.ifCond .eq 16, 3) := by decide +kernel
theorem dX5_strength_42 : decode cX5_strength 42 = .ok (.aload_n 0, 1) := by decide +kernel
theorem dX5_strength_43 : decode cX5_strength 43 = .ok (.getfield 28, 3) := by decide +kernel
theorem dX5_strength_46 : decode cX5_strength 46 = .ok (.iload 5, 2) := by decide +kernel
theorem dX5_strength_48 : decode cX5_strength 48 = .ok (.iload_n 1, 1) := by decide +kernel
theorem dX5_strength_49 : decode cX5_strength 49 = .ok (.invokevirtual 149, 3) := by decide +kernel
theorem dX5_strength_52 : decode cX5_strength 52 = .ok (.goto 4, 3) := by decide +kernel
theorem dX5_strength_55 : decode cX5_strength 55 = .ok (.iconst (-1), 1) := by decide +kernel
theorem dX5_strength_56 : decode cX5_strength 56 = .ok (.ireturn, 1) := by decide +kernel
theorem dX5_mended_0 : decode cX5_mended 0 = .ok (.iload_n 1, 1) := by decide +kernel
theorem dX5_mended_1 : decode cX5_mended 1 = .ok (.iload_n 2, 1) := by decide +kernel
theorem dX5_mended_2 : decode cX5_mended 2 = .ok (.invokestatic 152, 3) := by decide +kernel
theorem dX5_mended_5 : decode cX5_mended 5 = .ok (.ifCond .eq 26, 3) := by decide +kernel
theorem dX5_mended_8 : decode cX5_mended 8 = .ok (.iload_n 3, 1) := by decide +kernel
theorem dX5_mended_9 : decode cX5_mended 9 = .ok (.iload_n 1, 1) := by decide +kernel
theorem dX5_mended_10 : decode cX5_mended 10 = .ok (.if_icmp .lt 21, 3) := by decide +kernel
theorem dX5_mended_13 : decode cX5_mended 13 = .ok (.iload_n 3, 1) := by decide +kernel
theorem dX5_mended_14 : decode cX5_mended 14 = .ok (.iload_n 1, 1) := by decide +kernel
theorem dX5_mended_15 : decode cX5_mended 15 = .ok (.iload_n 2, 1) := by decide +kernel
theorem dX5_mended_16 : decode cX5_mended 16 = .ok (.iadd, 1) := by decide +kernel
theorem dX5_mended_17 : decode cX5_mended 17 = .ok (.if_icmp .ge 14, 3) := by decide +kernel
theorem dX5_mended_20 : decode cX5_mended 20 = .ok (.iload 4, 2) := by decide +kernel
theorem dX5_mended_22 : decode cX5_mended 22 = .ok (.ifCond .lt 9, 3) := by decide +kernel
theorem dX5_mended_25 : decode cX5_mended 25 = .ok (.iload 4, 2) := by decide +kernel
theorem dX5_mended_27 : decode cX5_mended 27 = .ok (.iconst 2, 1) := by decide +kernel
theorem dX5_mended_28 : decode cX5_mended 28 = .ok (.if_icmp .le 7, 3) := by decide +kernel
theorem dX5_mended_31 : decode cX5_mended 31 = .ok (.sipush (-1002), 3) := by decide +kernel
theorem dX5_mended_34 : decode cX5_mended 34 = .ok (.ireturn, 1) := by decide +kernel
theorem dX5_mended_35 : decode cX5_mended 35 = .ok (.aload_n 0, 1) := by decide +kernel
theorem dX5_mended_36 : decode cX5_mended 36 = .ok (.getfield 21, 3) := by decide +kernel
theorem dX5_mended_39 : decode cX5_mended 39 = .ok (.iload_n 1, 1) := by decide +kernel
theorem dX5_mended_40 : decode cX5_mended 40 = .ok (.iload_n 2, 1) := by decide +kernel
theorem dX5_mended_41 : decode cX5_mended 41 = .ok (.invokevirtual 156, 3) := by decide +kernel
theorem dX5_mended_44 : decode cX5_mended 44 = .ok (.ifCond .ne 7, 3) := by decide +kernel
theorem dX5_mended_47 : decode cX5_mended 47 = .ok (.sipush (-1003), 3) := by decide +kernel
theorem dX5_mended_50 : decode cX5_mended 50 = .ok (.ireturn, 1) := by decide +kernel
theorem dX5_mended_51 : decode cX5_mended 51 = .ok (.aload_n 0, 1) := by decide +kernel
theorem dX5_mended_52 : decode cX5_mended 52 = .ok (.getfield 28, 3) := by decide +kernel
theorem dX5_mended_55 : decode cX5_mended 55 = .ok (.aload_n 0, 1) := by decide +kernel
theorem dX5_mended_56 : decode cX5_mended 56 = .ok (.getfield 21, 3) := by decide +kernel
theorem dX5_mended_59 : decode cX5_mended 59 = .ok (.iload_n 1, 1) := by decide +kernel
theorem dX5_mended_60 : decode cX5_mended 60 = .ok (.iload_n 2, 1) := by decide +kernel
theorem dX5_mended_61 : decode cX5_mended 61 = .ok (.invokevirtual 159, 3) := by decide +kernel
theorem dX5_mended_64 : decode cX5_mended 64 = .ok (.aload_n 0, 1) := by decide +kernel
theorem dX5_mended_65 : decode cX5_mended 65 = .ok (.getfield 28, 3) := by decide +kernel
theorem dX5_mended_68 : decode cX5_mended 68 = .ok (.iload_n 3, 1) := by decide +kernel
theorem dX5_mended_69 : decode cX5_mended 69 = .ok (.iload_n 1, 1) := by decide +kernel
theorem dX5_mended_70 : decode cX5_mended 70 = .ok (.isub, 1) := by decide +kernel
theorem dX5_mended_71 : decode cX5_mended 71 = .ok (.iload 4, 2) := by decide +kernel
theorem dX5_mended_73 : decode cX5_mended 73 = .ok (.invokevirtual 163, 3) := by decide +kernel
theorem dX5_mended_76 : decode cX5_mended 76 = .ok (.ireturn, 1) := by decide +kernel
theorem dX5_tune_0 : decode cX5_tune 0 = .ok (.iload_n 1, 1) := by decide +kernel
theorem dX5_tune_1 : decode cX5_tune 1 = .ok (.ifCond .lt 14, 3) := by decide +kernel
theorem dX5_tune_4 : decode cX5_tune 4 = .ok (.iload_n 1, 1) := by decide +kernel
theorem dX5_tune_5 : decode cX5_tune 5 = .ok (.aload_n 0, 1) := by decide +kernel
theorem dX5_tune_6 : decode cX5_tune 6 = .ok (.getfield 21, 3) := by decide +kernel
theorem dX5_tune_9 : decode cX5_tune 9 = .ok (.getfield 70, 3) := by decide +kernel
theorem dX5_tune_12 : decode cX5_tune 12 = .ok (.if_icmp .lt 7, 3) := by decide +kernel
theorem dX5_tune_15 : decode cX5_tune 15 = .ok (.sipush (-1001), 3) := by decide +kernel
theorem dX5_tune_18 : decode cX5_tune 18 = .ok (.ireturn, 1) := by decide +kernel
theorem dX5_tune_19 : decode cX5_tune 19 = .ok (.aload_n 0, 1) := by decide +kernel
theorem dX5_tune_20 : decode cX5_tune 20 = .ok (.getfield 21, 3) := by decide +kernel
theorem dX5_tune_23 : decode cX5_tune 23 = .ok (.invokevirtual 166, 3) := by decide +kernel
theorem dX5_tune_26 : decode cX5_tune 26 = .ok (.ifCond .eq 9, 3) := by decide +kernel
theorem dX5_tune_29 : decode cX5_tune 29 = .ok (.sipush (-1003), 3) := by decide +kernel
theorem dX5_tune_32 : decode cX5_tune 32 = .ok (.goto 11, 3) := by decide +kernel
theorem dX5_tune_35 : decode cX5_tune 35 = .ok (.aload_n 0, 1) := by decide +kernel
theorem dX5_tune_36 : decode cX5_tune 36 = .ok (.getfield 21, 3) := by decide +kernel
theorem dX5_tune_39 : decode cX5_tune 39 = .ok (.iload_n 1, 1) := by decide +kernel
theorem dX5_tune_40 : decode cX5_tune 40 = .ok (.invokevirtual 169, 3) := by decide +kernel
theorem dX5_tune_43 : decode cX5_tune 43 = .ok (.ireturn, 1) := by decide +kernel
theorem dX5_twin_0 : decode cX5_twin 0 = .ok (.iload_n 2, 1) := by decide +kernel
theorem dX5_twin_1 : decode cX5_twin 1 = .ok (.ifCond .lt 8, 3) := by decide +kernel
theorem dX5_twin_4 : decode cX5_twin 4 = .ok (.iload_n 2, 1) := by decide +kernel
theorem dX5_twin_5 : decode cX5_twin 5 = .ok (.iconst 1, 1) := by decide +kernel
theorem dX5_twin_6 : decode cX5_twin 6 = .ok (.if_icmp .le 7, 3) := by decide +kernel
theorem dX5_twin_9 : decode cX5_twin 9 = .ok (.sipush (-1002), 3) := by decide +kernel
theorem dX5_twin_12 : decode cX5_twin 12 = .ok (.ireturn, 1) := by decide +kernel
theorem dX5_twin_13 : decode cX5_twin 13 = .ok (.aload_n 0, 1) := by decide +kernel
theorem dX5_twin_14 : decode cX5_twin 14 = .ok (.getfield 21, 3) := by decide +kernel
theorem dX5_twin_17 : decode cX5_twin 17 = .ok (.iload_n 1, 1) := by decide +kernel
theorem dX5_twin_18 : decode cX5_twin 18 = .ok (.iload_n 2, 1) := by decide +kernel
theorem dX5_twin_19 : decode cX5_twin 19 = .ok (.invokevirtual 172, 3) := by decide +kernel
theorem dX5_twin_22 : decode cX5_twin 22 = .ok (.ireturn, 1) := by decide +kernel
theorem dX5_weight_0 : decode cX5_weight 0 = .ok (.iload_n 1, 1) := by decide +kernel
theorem dX5_weight_1 : decode cX5_weight 1 = .ok (.invokestatic 81, 3) := by decide +kernel
theorem dX5_weight_4 : decode cX5_weight 4 = .ok (.ifCond .eq 17, 3) := by decide +kernel
theorem dX5_weight_7 : decode cX5_weight 7 = .ok (.aload_n 0, 1) := by decide +kernel
theorem dX5_weight_8 : decode cX5_weight 8 = .ok (.getfield 21, 3) := by decide +kernel
theorem dX5_weight_11 : decode cX5_weight 11 = .ok (.getfield 55, 3) := by decide +kernel
theorem dX5_weight_14 : decode cX5_weight 14 = .ok (.iload_n 1, 1) := by decide +kernel
theorem dX5_weight_15 : decode cX5_weight 15 = .ok (.invokestatic 175, 3) := by decide +kernel
theorem dX5_weight_18 : decode cX5_weight 18 = .ok (.goto 6, 3) := by decide +kernel
theorem dX5_weight_21 : decode cX5_weight 21 = .ok (.sipush (-1002), 3) := by decide +kernel
theorem dX5_weight_24 : decode cX5_weight 24 = .ok (.ireturn, 1) := by decide +kernel
theorem dX5_best_0 : decode cX5_best 0 = .ok (.iload_n 1, 1) := by decide +kernel
theorem dX5_best_1 : decode cX5_best 1 = .ok (.ifCond .lt 8, 3) := by decide +kernel
theorem dX5_best_4 : decode cX5_best 4 = .ok (.iload_n 1, 1) := by decide +kernel
theorem dX5_best_5 : decode cX5_best 5 = .ok (.iconst 1, 1) := by decide +kernel
theorem dX5_best_6 : decode cX5_best 6 = .ok (.if_icmp .le 7, 3) := by decide +kernel
theorem dX5_best_9 : decode cX5_best 9 = .ok (.sipush (-1002), 3) := by decide +kernel
theorem dX5_best_12 : decode cX5_best 12 = .ok (.ireturn, 1) := by decide +kernel
theorem dX5_best_13 : decode cX5_best 13 = .ok (.aload_n 0, 1) := by decide +kernel
theorem dX5_best_14 : decode cX5_best 14 = .ok (.getfield 21, 3) := by decide +kernel
theorem dX5_best_17 : decode cX5_best 17 = .ok (.getfield 55, 3) := by decide +kernel
theorem dX5_best_20 : decode cX5_best 20 = .ok (.invokestatic 178, 3) := by decide +kernel
theorem dX5_best_23 : decode cX5_best 23 = .ok (.istore_n 2, 1) := by decide +kernel
theorem dX5_best_24 : decode cX5_best 24 = .ok (.iload_n 2, 1) := by decide +kernel
theorem dX5_best_25 : decode cX5_best 25 = .ok (.iconst (-1), 1) := by decide +kernel
theorem dX5_best_26 : decode cX5_best 26 = .ok (.if_icmp .eq 7, 3) := by decide +kernel
theorem dX5_best_29 : decode cX5_best 29 = .ok (.iload_n 1, 1) := by decide +kernel
theorem dX5_best_30 : decode cX5_best 30 = .ok (.ifCond .ne 5, 3) := by decide +kernel
theorem dX5_best_33 : decode cX5_best 33 = .ok (.iload_n 2, 1) := by decide +kernel
theorem dX5_best_34 : decode cX5_best 34 = .ok (.ireturn, 1) := by decide +kernel
theorem dX5_best_35 : decode cX5_best 35 = .ok (.aload_n 0, 1) := by decide +kernel
theorem dX5_best_36 : decode cX5_best 36 = .ok (.getfield 21, 3) := by decide +kernel
theorem dX5_best_39 : decode cX5_best 39 = .ok (.getfield 55, 3) := by decide +kernel
theorem dX5_best_42 : decode cX5_best 42 = .ok (.iconst 1, 1) := by decide +kernel
theorem dX5_best_43 : decode cX5_best 43 = .ok (.iload_n 2, 1) := by decide +kernel
theorem dX5_best_44 : decode cX5_best 44 = .ok (.ishl, 1) := by decide +kernel
theorem dX5_best_45 : decode cX5_best 45 = .ok (.ior, 1) := by decide +kernel
theorem dX5_best_46 : decode cX5_best 46 = .ok (.invokestatic 103, 3) := by decide +kernel
theorem dX5_best_49 : decode cX5_best 49 = .ok (.ireturn, 1) := by decide +kernel
theorem dX5_station_0 : decode cX5_station 0 = .ok (.iload_n 1, 1) := by decide +kernel
theorem dX5_station_1 : decode cX5_station 1 = .ok (.invokestatic 181, 3) := by decide +kernel
theorem dX5_station_4 : decode cX5_station 4 = .ok (.ifCond .eq 19, 3) := by decide +kernel
theorem dX5_station_7 : decode cX5_station 7 = .ok (.iload_n 2, 1) := by decide +kernel
theorem dX5_station_8 : decode cX5_station 8 = .ok (.invokestatic 181, 3) := by decide +kernel
theorem dX5_station_11 : decode cX5_station 11 = .ok (.ifCond .eq 12, 3) := by decide +kernel
theorem dX5_station_14 : decode cX5_station 14 = .ok (.iload_n 3, 1) := by decide +kernel
theorem dX5_station_15 : decode cX5_station 15 = .ok (.iload 4, 2) := by decide +kernel
theorem dX5_station_17 : decode cX5_station 17 = .ok (.invokestatic 184, 3) := by decide +kernel
theorem dX5_station_20 : decode cX5_station 20 = .ok (.ifCond .ne 7, 3) := by decide +kernel
theorem dX5_station_23 : decode cX5_station 23 = .ok (.sipush (-1002), 3) := by decide +kernel
theorem dX5_station_26 : decode cX5_station 26 = .ok (.ireturn, 1) := by decide +kernel
theorem dX5_station_27 : decode cX5_station 27 = .ok (.aload_n 0, 1) := by decide +kernel
theorem dX5_station_28 : decode cX5_station 28 = .ok (.getfield 35, 3) := by decide +kernel
theorem dX5_station_31 : decode cX5_station 31 = .ok (.getfield 100, 3) := by decide +kernel
theorem dX5_station_34 : decode cX5_station 34 = .ok (.bipush 6, 2) := by decide +kernel
theorem dX5_station_36 : decode cX5_station 36 = .ok (.if_icmp .lt 9, 3) := by decide +kernel
theorem dX5_station_39 : decode cX5_station 39 = .ok (.sipush (-1004), 3) := by decide +kernel
theorem dX5_station_42 : decode cX5_station 42 = .ok (.goto 15, 3) := by decide +kernel
theorem dX5_station_45 : decode cX5_station 45 = .ok (.aload_n 0, 1) := by decide +kernel
theorem dX5_station_46 : decode cX5_station 46 = .ok (.getfield 35, 3) := by decide +kernel
theorem dX5_station_49 : decode cX5_station 49 = .ok (.iload_n 1, 1) := by decide +kernel
theorem dX5_station_50 : decode cX5_station 50 = .ok (.iload_n 2, 1) := by decide +kernel
theorem dX5_station_51 : decode cX5_station 51 = .ok (.iload_n 3, 1) := by decide +kernel
theorem dX5_station_52 : decode cX5_station 52 = .ok (.iload 4, 2) := by decide +kernel
theorem dX5_station_54 : decode cX5_station 54 = .ok (.invokevirtual 187, 3) := by decide +kernel
theorem dX5_station_57 : decode cX5_station 57 = .ok (.ireturn, 1) := by decide +kernel
theorem dX5_look_0 : decode cX5_look 0 = .ok (.aload_n 0, 1) := by decide +kernel
theorem dX5_look_1 : decode cX5_look 1 = .ok (.getfield 35, 3) := by decide +kernel
theorem dX5_look_4 : decode cX5_look 4 = .ok (.iload_n 1, 1) := by decide +kernel
theorem dX5_look_5 : decode cX5_look 5 = .ok (.invokevirtual 191, 3) := by decide +kernel
theorem dX5_look_8 : decode cX5_look 8 = .ok (.ifCond .ne 7, 3) := by decide +kernel
theorem dX5_look_11 : decode cX5_look 11 = .ok (.sipush (-1001), 3) := by decide +kernel
theorem dX5_look_14 : decode cX5_look 14 = .ok (.ireturn, 1) := by decide +kernel
theorem dX5_look_15 : decode cX5_look 15 = .ok (.iload_n 2, 1) := by decide +kernel
theorem dX5_look_16 : decode cX5_look 16 = .ok (.iload_n 3, 1) := by decide +kernel
theorem dX5_look_17 : decode cX5_look 17 = .ok (.invokestatic 184, 3) := by decide +kernel
theorem dX5_look_20 : decode cX5_look 20 = .ok (.ifCond .ne 7, 3) := by decide +kernel
theorem dX5_look_23 : decode cX5_look 23 = .ok (.sipush (-1002), 3) := by decide +kernel
theorem dX5_look_26 : decode cX5_look 26 = .ok (.ireturn, 1) := by decide +kernel
theorem dX5_look_27 : decode cX5_look 27 = .ok (.aload_n 0, 1) := by decide +kernel
theorem dX5_look_28 : decode cX5_look 28 = .ok (.getfield 35, 3) := by decide +kernel
theorem dX5_look_31 : decode cX5_look 31 = .ok (.iload_n 1, 1) := by decide +kernel
theorem dX5_look_32 : decode cX5_look 32 = .ok (.iload_n 2, 1) := by decide +kernel
theorem dX5_look_33 : decode cX5_look 33 = .ok (.iload_n 3, 1) := by decide +kernel
theorem dX5_look_34 : decode cX5_look 34 = .ok (.invokevirtual 194, 3) := by decide +kernel
theorem dX5_look_37 : decode cX5_look 37 = .ok (.iconst 1, 1) := by decide +kernel
theorem dX5_look_38 : decode cX5_look 38 = .ok (.ireturn, 1) := by decide +kernel
theorem dX5_crossing_0 : decode cX5_crossing 0 = .ok (.aload_n 0, 1) := by decide +kernel
theorem dX5_crossing_1 : decode cX5_crossing 1 = .ok (.getfield 35, 3) := by decide +kernel
theorem dX5_crossing_4 : decode cX5_crossing 4 = .ok (.iload_n 1, 1) := by decide +kernel
theorem dX5_crossing_5 : decode cX5_crossing 5 = .ok (.invokevirtual 191, 3) := by decide +kernel
theorem dX5_crossing_8 : decode cX5_crossing 8 = .ok (.ifCond .eq 14, 3) := by decide +kernel
theorem dX5_crossing_11 : decode cX5_crossing 11 = .ok (.aload_n 0, 1) := by decide +kernel
theorem dX5_crossing_12 : decode cX5_crossing 12 = .ok (.getfield 35, 3) := by decide +kernel
theorem dX5_crossing_15 : decode cX5_crossing 15 = .ok (.iload_n 2, 1) := by decide +kernel
theorem dX5_crossing_16 : decode cX5_crossing 16 = .ok (.invokevirtual 191, 3) := by decide +kernel
theorem dX5_crossing_19 : decode cX5_crossing 19 = .ok (.ifCond .ne 7, 3) := by decide +kernel
theorem dX5_crossing_22 : decode cX5_crossing 22 = .ok (.ldc2_w 198, 3) := by decide +kernel
theorem dX5_crossing_25 : decode cX5_crossing 25 = .ok (.lreturn, 1) := by decide +kernel
theorem dX5_crossing_26 : decode cX5_crossing 26 = .ok (.iload_n 3, 1) := by decide +kernel
theorem dX5_crossing_27 : decode cX5_crossing 27 = .ok (.ifCond .lt 8, 3) := by decide +kernel
theorem dX5_crossing_30 : decode cX5_crossing 30 = .ok (.iload_n 3, 1) := by decide +kernel
theorem dX5_crossing_31 : decode cX5_crossing 31 = .ok (.iconst 3, 1) := by decide +kernel
theorem dX5_crossing_32 : decode cX5_crossing 32 = .ok (.if_icmp .le 7, 3) := by decide +kernel
theorem dX5_crossing_35 : decode cX5_crossing 35 = .ok (.ldc2_w 200, 3) := by decide +kernel
theorem dX5_crossing_38 : decode cX5_crossing 38 = .ok (.lreturn, 1) := by decide +kernel
theorem dX5_crossing_39 : decode cX5_crossing 39 = .ok (.aload_n 0, 1) := by decide +kernel
theorem dX5_crossing_40 : decode cX5_crossing 40 = .ok (.getfield 35, 3) := by decide +kernel
theorem dX5_crossing_43 : decode cX5_crossing 43 = .ok (.iload_n 1, 1) := by decide +kernel
theorem dX5_crossing_44 : decode cX5_crossing 44 = .ok (.iload_n 2, 1) := by decide +kernel
theorem dX5_crossing_45 : decode cX5_crossing 45 = .ok (.invokevirtual 202, 3) := by decide +kernel
theorem dX5_crossing_48 : decode cX5_crossing 48 = .ok (.ifCond .eq 14, 3) := by decide +kernel
theorem dX5_crossing_51 : decode cX5_crossing 51 = .ok (.aload_n 0, 1) := by decide +kernel
theorem dX5_crossing_52 : decode cX5_crossing 52 = .ok (.getfield 35, 3) := by decide +kernel
theorem dX5_crossing_55 : decode cX5_crossing 55 = .ok (.iload_n 3, 1) := by decide +kernel
theorem dX5_crossing_56 : decode cX5_crossing 56 = .ok (.invokevirtual 205, 3) := by decide +kernel
theorem dX5_crossing_59 : decode cX5_crossing 59 = .ok (.goto 6, 3) := by decide +kernel
theorem dX5_crossing_62 : decode cX5_crossing 62 = .ok (.ldc2_w 209, 3) := by decide +kernel
theorem dX5_crossing_65 : decode cX5_crossing 65 = .ok (.lreturn, 1) := by decide +kernel
theorem dX5_borne_0 : decode cX5_borne 0 = .ok (.aload_n 0, 1) := by decide +kernel
theorem dX5_borne_1 : decode cX5_borne 1 = .ok (.getfield 35, 3) := by decide +kernel
theorem dX5_borne_4 : decode cX5_borne 4 = .ok (.iload_n 1, 1) := by decide +kernel
theorem dX5_borne_5 : decode cX5_borne 5 = .ok (.invokevirtual 191, 3) := by decide +kernel
theorem dX5_borne_8 : decode cX5_borne 8 = .ok (.ifCond .eq 14, 3) := by decide +kernel
theorem dX5_borne_11 : decode cX5_borne 11 = .ok (.aload_n 0, 1) := by decide +kernel
theorem dX5_borne_12 : decode cX5_borne 12 = .ok (.getfield 35, 3) := by decide +kernel
theorem dX5_borne_15 : decode cX5_borne 15 = .ok (.iload_n 2, 1) := by decide +kernel
theorem dX5_borne_16 : decode cX5_borne 16 = .ok (.invokevirtual 191, 3) := by decide +kernel
theorem dX5_borne_19 : decode cX5_borne 19 = .ok (.ifCond .ne 7, 3) := by decide +kernel
theorem dX5_borne_22 : decode cX5_borne 22 = .ok (.sipush (-1001), 3) := by decide +kernel
theorem dX5_borne_25 : decode cX5_borne 25 = .ok (.ireturn, 1) := by decide +kernel
theorem dX5_borne_26 : decode cX5_borne 26 = .ok (.iload_n 3, 1) := by decide +kernel
theorem dX5_borne_27 : decode cX5_borne 27 = .ok (.ifCond .lt 10, 3) := by decide +kernel
theorem dX5_borne_30 : decode cX5_borne 30 = .ok (.iload_n 3, 1) := by decide +kernel
theorem dX5_borne_31 : decode cX5_borne 31 = .ok (.sipush 200, 3) := by decide +kernel
theorem dX5_borne_34 : decode cX5_borne 34 = .ok (.if_icmp .le 7, 3) := by decide +kernel
theorem dX5_borne_37 : decode cX5_borne 37 = .ok (.sipush (-1002), 3) := by decide +kernel
theorem dX5_borne_40 : decode cX5_borne 40 = .ok (.ireturn, 1) := by decide +kernel
theorem dX5_borne_41 : decode cX5_borne 41 = .ok (.aload_n 0, 1) := by decide +kernel
theorem dX5_borne_42 : decode cX5_borne 42 = .ok (.getfield 35, 3) := by decide +kernel
theorem dX5_borne_45 : decode cX5_borne 45 = .ok (.iload_n 1, 1) := by decide +kernel
theorem dX5_borne_46 : decode cX5_borne 46 = .ok (.iload_n 2, 1) := by decide +kernel
theorem dX5_borne_47 : decode cX5_borne 47 = .ok (.invokevirtual 202, 3) := by decide +kernel
theorem dX5_borne_50 : decode cX5_borne 50 = .ok (.ifCond .eq 16, 3) := by decide +kernel
theorem dX5_borne_53 : decode cX5_borne 53 = .ok (.aload_n 0, 1) := by decide +kernel
theorem dX5_borne_54 : decode cX5_borne 54 = .ok (.getfield 35, 3) := by decide +kernel
theorem dX5_borne_57 : decode cX5_borne 57 = .ok (.iload_n 1, 1) := by decide +kernel
theorem dX5_borne_58 : decode cX5_borne 58 = .ok (.iload_n 2, 1) := by decide +kernel
theorem dX5_borne_59 : decode cX5_borne 59 = .ok (.iload_n 3, 1) := by decide +kernel
theorem dX5_borne_60 : decode cX5_borne 60 = .ok (.invokevirtual 211, 3) := by decide +kernel
theorem dX5_borne_63 : decode cX5_borne 63 = .ok (.goto 6, 3) := by decide +kernel
theorem dX5_borne_66 : decode cX5_borne 66 = .ok (.sipush (-1003), 3) := by decide +kernel
theorem dX5_borne_69 : decode cX5_borne 69 = .ok (.ireturn, 1) := by decide +kernel
theorem dX5_most_0 : decode cX5_most 0 = .ok (.iload_n 1, 1) := by decide +kernel
theorem dX5_most_1 : decode cX5_most 1 = .ok (.ifCond .lt 19, 3) := by decide +kernel
theorem dX5_most_4 : decode cX5_most 4 = .ok (.iload_n 1, 1) := by decide +kernel
theorem dX5_most_5 : decode cX5_most 5 = .ok (.sipush 200, 3) := by decide +kernel
