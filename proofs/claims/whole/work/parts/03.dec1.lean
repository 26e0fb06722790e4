theorem d_D_init_0 : decode c_D_init 0 = .ok (.aload_n 0, 1) := by decide +kernel
theorem d_D_init_1 : decode c_D_init 1 = .ok (.invokespecial 3, 3) := by decide +kernel
theorem d_D_init_4 : decode c_D_init 4 = .ok (.aload_n 0, 1) := by decide +kernel
theorem d_D_init_5 : decode c_D_init 5 = .ok (.new 9, 3) := by decide +kernel
theorem d_D_init_8 : decode c_D_init 8 = .ok (.dup, 1) := by decide +kernel
theorem d_D_init_9 : decode c_D_init 9 = .ok (.iload_n 1, 1) := by decide +kernel
theorem d_D_init_10 : decode c_D_init 10 = .ok (.invokespecial 11, 3) := by decide +kernel
theorem d_D_init_13 : decode c_D_init 13 = .ok (.putfield 14, 3) := by decide +kernel
theorem d_D_init_16 : decode c_D_init 16 = .ok (.aload_n 0, 1) := by decide +kernel
theorem d_D_init_17 : decode c_D_init 17 = .ok (.new 18, 3) := by decide +kernel
theorem d_D_init_20 : decode c_D_init 20 = .ok (.dup, 1) := by decide +kernel
theorem d_D_init_21 : decode c_D_init 21 = .ok (.invokespecial 20, 3) := by decide +kernel
theorem d_D_init_24 : decode c_D_init 24 = .ok (.putfield 21, 3) := by decide +kernel
theorem d_D_init_27 : decode c_D_init 27 = .ok (.aload_n 0, 1) := by decide +kernel
theorem d_D_init_28 : decode c_D_init 28 = .ok (.new 25, 3) := by decide +kernel
theorem d_D_init_31 : decode c_D_init 31 = .ok (.dup, 1) := by decide +kernel
theorem d_D_init_32 : decode c_D_init 32 = .ok (.invokespecial 27, 3) := by decide +kernel
theorem d_D_init_35 : decode c_D_init 35 = .ok (.putfield 28, 3) := by decide +kernel
theorem d_D_init_38 : decode c_D_init 38 = .ok (.aload_n 0, 1) := by decide +kernel
theorem d_D_init_39 : decode c_D_init 39 = .ok (.new 32, 3) := by decide +kernel
theorem d_D_init_42 : decode c_D_init 42 = .ok (.dup, 1) := by decide +kernel
theorem d_D_init_43 : decode c_D_init 43 = .ok (.invokespecial 34, 3) := by decide +kernel
theorem d_D_init_46 : decode c_D_init 46 = .ok (.putfield 35, 3) := by decide +kernel
theorem d_D_init_49 : decode c_D_init 49 = .ok (.aload_n 0, 1) := by decide +kernel
theorem d_D_init_50 : decode c_D_init 50 = .ok (.iconst 3, 1) := by decide +kernel
theorem d_D_init_51 : decode c_D_init 51 = .ok (.newarray .int, 2) := by decide +kernel
theorem d_D_init_53 : decode c_D_init 53 = .ok (.putfield 39, 3) := by decide +kernel
theorem d_D_init_56 : decode c_D_init 56 = .ok (.return_, 1) := by decide +kernel
theorem d_D_haul_0 : decode c_D_haul 0 = .ok (.iload_n 1, 1) := by decide +kernel
theorem d_D_haul_1 : decode c_D_haul 1 = .ok (.invokestatic 43, 3) := by decide +kernel
theorem d_D_haul_4 : decode c_D_haul 4 = .ok (.aload_n 0, 1) := by decide +kernel
theorem d_D_haul_5 : decode c_D_haul 5 = .ok (.getfield 14, 3) := by decide +kernel
theorem d_D_haul_8 : decode c_D_haul 8 = .ok (.getfield 46, 3) := by decide +kernel
theorem d_D_haul_11 : decode c_D_haul 11 = .ok (.bipush 32, 2) := by decide +kernel
theorem d_D_haul_13 : decode c_D_haul 13 = .ok (.if_icmp .lt 13, 3) := by decide +kernel
theorem d_D_haul_16 : decode c_D_haul 16 = .ok (.new 50, 3) := by decide +kernel
theorem d_D_haul_19 : decode c_D_haul 19 = .ok (.dup, 1) := by decide +kernel
theorem d_D_haul_20 : decode c_D_haul 20 = .ok (.ldc 52, 2) := by decide +kernel
theorem d_D_haul_22 : decode c_D_haul 22 = .ok (.invokespecial 54, 3) := by decide +kernel
theorem d_D_haul_25 : decode c_D_haul 25 = .ok (.athrow, 1) := by decide +kernel
theorem d_D_haul_26 : decode c_D_haul 26 = .ok (.aload_n 0, 1) := by decide +kernel
theorem d_D_haul_27 : decode c_D_haul 27 = .ok (.getfield 14, 3) := by decide +kernel
theorem d_D_haul_30 : decode c_D_haul 30 = .ok (.iload_n 1, 1) := by decide +kernel
theorem d_D_haul_31 : decode c_D_haul 31 = .ok (.invokevirtual 57, 3) := by decide +kernel
theorem d_D_haul_34 : decode c_D_haul 34 = .ok (.ireturn, 1) := by decide +kernel
theorem d_D_caught_0 : decode c_D_caught 0 = .ok (.aload_n 0, 1) := by decide +kernel
theorem d_D_caught_1 : decode c_D_caught 1 = .ok (.iload_n 1, 1) := by decide +kernel
theorem d_D_caught_2 : decode c_D_caught 2 = .ok (.invokevirtual 61, 3) := by decide +kernel
theorem d_D_caught_5 : decode c_D_caught 5 = .ok (.iload_n 2, 1) := by decide +kernel
theorem d_D_caught_6 : decode c_D_caught 6 = .ok (.invokestatic 64, 3) := by decide +kernel
theorem d_D_caught_9 : decode c_D_caught 9 = .ok (.iload_n 3, 1) := by decide +kernel
theorem d_D_caught_10 : decode c_D_caught 10 = .ok (.iconst 0, 1) := by decide +kernel
theorem d_D_caught_11 : decode c_D_caught 11 = .ok (.sipush 1000, 3) := by decide +kernel
theorem d_D_caught_14 : decode c_D_caught 14 = .ok (.invokestatic 67, 3) := by decide +kernel
theorem d_D_caught_17 : decode c_D_caught 17 = .ok (.aload_n 0, 1) := by decide +kernel
theorem d_D_caught_18 : decode c_D_caught 18 = .ok (.getfield 14, 3) := by decide +kernel
theorem d_D_caught_21 : decode c_D_caught 21 = .ok (.iload_n 1, 1) := by decide +kernel
theorem d_D_caught_22 : decode c_D_caught 22 = .ok (.iload_n 2, 1) := by decide +kernel
theorem d_D_caught_23 : decode c_D_caught 23 = .ok (.iload_n 3, 1) := by decide +kernel
theorem d_D_caught_24 : decode c_D_caught 24 = .ok (.invokevirtual 71, 3) := by decide +kernel
theorem d_D_caught_27 : decode c_D_caught 27 = .ok (.ireturn, 1) := by decide +kernel
theorem d_D_out_0 : decode c_D_out 0 = .ok (.iload_n 1, 1) := by decide +kernel
theorem d_D_out_1 : decode c_D_out 1 = .ok (.invokestatic 43, 3) := by decide +kernel
theorem d_D_out_4 : decode c_D_out 4 = .ok (.aload_n 0, 1) := by decide +kernel
theorem d_D_out_5 : decode c_D_out 5 = .ok (.getfield 14, 3) := by decide +kernel
theorem d_D_out_8 : decode c_D_out 8 = .ok (.iload_n 1, 1) := by decide +kernel
theorem d_D_out_9 : decode c_D_out 9 = .ok (.iload_n 2, 1) := by decide +kernel
theorem d_D_out_10 : decode c_D_out 10 = .ok (.invokevirtual 75, 3) := by decide +kernel
theorem d_D_out_13 : decode c_D_out 13 = .ok (.ireturn, 1) := by decide +kernel
theorem d_D_arm_0 : decode c_D_arm 0 = .ok (.aload_n 0, 1) := by decide +kernel
theorem d_D_arm_1 : decode c_D_arm 1 = .ok (.iload_n 1, 1) := by decide +kernel
theorem d_D_arm_2 : decode c_D_arm 2 = .ok (.invokevirtual 61, 3) := by decide +kernel
theorem d_D_arm_5 : decode c_D_arm 5 = .ok (.aload_n 0, 1) := by decide +kernel
theorem d_D_arm_6 : decode c_D_arm 6 = .ok (.getfield 14, 3) := by decide +kernel
theorem d_D_arm_9 : decode c_D_arm 9 = .ok (.getfield 79, 3) := by decide +kernel
theorem d_D_arm_12 : decode c_D_arm 12 = .ok (.iload_n 1, 1) := by decide +kernel
theorem d_D_arm_13 : decode c_D_arm 13 = .ok (.baload, 1) := by decide +kernel
theorem d_D_arm_14 : decode c_D_arm 14 = .ok (.ifCond .eq 7, 3) := by decide +kernel
theorem d_D_arm_17 : decode c_D_arm 17 = .ok (.iconst 1, 1) := by decide +kernel
theorem d_D_arm_18 : decode c_D_arm 18 = .ok (.goto 4, 3) := by decide +kernel
theorem d_D_arm_21 : decode c_D_arm 21 = .ok (.iconst 0, 1) := by decide +kernel
theorem d_D_arm_22 : decode c_D_arm 22 = .ok (.ireturn, 1) := by decide +kernel
theorem d_D_pair_0 : decode c_D_pair 0 = .ok (.aload_n 0, 1) := by decide +kernel
theorem d_D_pair_1 : decode c_D_pair 1 = .ok (.iload_n 1, 1) := by decide +kernel
theorem d_D_pair_2 : decode c_D_pair 2 = .ok (.invokevirtual 83, 3) := by decide +kernel
theorem d_D_pair_5 : decode c_D_pair 5 = .ok (.iload_n 2, 1) := by decide +kernel
theorem d_D_pair_6 : decode c_D_pair 6 = .ok (.iconst 3, 1) := by decide +kernel
theorem d_D_pair_7 : decode c_D_pair 7 = .ok (.invokestatic 86, 3) := by decide +kernel
theorem d_D_pair_10 : decode c_D_pair 10 = .ok (.iload_n 2, 1) := by decide +kernel
theorem d_D_pair_11 : decode c_D_pair 11 = .ok (.ifCond .ne 13, 3) := by decide +kernel
theorem d_D_pair_14 : decode c_D_pair 14 = .ok (.aload_n 0, 1) := by decide +kernel
theorem d_D_pair_15 : decode c_D_pair 15 = .ok (.getfield 14, 3) := by decide +kernel
theorem d_D_pair_18 : decode c_D_pair 18 = .ok (.getfield 90, 3) := by decide +kernel
theorem d_D_pair_21 : decode c_D_pair 21 = .ok (.iload_n 1, 1) := by decide +kernel
theorem d_D_pair_22 : decode c_D_pair 22 = .ok (.iaload, 1) := by decide +kernel
theorem d_D_pair_23 : decode c_D_pair 23 = .ok (.ireturn, 1) := by decide +kernel
theorem d_D_pair_24 : decode c_D_pair 24 = .ok (.iload_n 2, 1) := by decide +kernel
theorem d_D_pair_25 : decode c_D_pair 25 = .ok (.iconst 1, 1) := by decide +kernel
theorem d_D_pair_26 : decode c_D_pair 26 = .ok (.if_icmp .ne 15, 3) := by decide +kernel
theorem d_D_pair_29 : decode c_D_pair 29 = .ok (.aload_n 0, 1) := by decide +kernel
theorem d_D_pair_30 : decode c_D_pair 30 = .ok (.getfield 14, 3) := by decide +kernel
theorem d_D_pair_33 : decode c_D_pair 33 = .ok (.getfield 93, 3) := by decide +kernel
theorem d_D_pair_36 : decode c_D_pair 36 = .ok (.iload_n 1, 1) := by decide +kernel
theorem d_D_pair_37 : decode c_D_pair 37 = .ok (.iaload, 1) := by decide +kernel
theorem d_D_pair_38 : decode c_D_pair 38 = .ok (.goto 12, 3) := by decide +kernel
theorem d_D_pair_41 : decode c_D_pair 41 = .ok (.aload_n 0, 1) := by decide +kernel
theorem d_D_pair_42 : decode c_D_pair 42 = .ok (.getfield 14, 3) := by decide +kernel
theorem d_D_pair_45 : decode c_D_pair 45 = .ok (.getfield 96, 3) := by decide +kernel
theorem d_D_pair_48 : decode c_D_pair 48 = .ok (.iload_n 1, 1) := by decide +kernel
theorem d_D_pair_49 : decode c_D_pair 49 = .ok (.iaload, 1) := by decide +kernel
theorem d_D_pair_50 : decode c_D_pair 50 = .ok (.ireturn, 1) := by decide +kernel
theorem d_D_pairs_0 : decode c_D_pairs 0 = .ok (.aload_n 0, 1) := by decide +kernel
theorem d_D_pairs_1 : decode c_D_pairs 1 = .ok (.getfield 14, 3) := by decide +kernel
theorem d_D_pairs_4 : decode c_D_pairs 4 = .ok (.getfield 99, 3) := by decide +kernel
theorem d_D_pairs_7 : decode c_D_pairs 7 = .ok (.ireturn, 1) := by decide +kernel
theorem d_D_difference_0 : decode c_D_difference 0 = .ok (.aload_n 0, 1) := by decide +kernel
theorem d_D_difference_1 : decode c_D_difference 1 = .ok (.iload_n 1, 1) := by decide +kernel
theorem d_D_difference_2 : decode c_D_difference 2 = .ok (.invokevirtual 83, 3) := by decide +kernel
theorem d_D_difference_5 : decode c_D_difference 5 = .ok (.iload_n 2, 1) := by decide +kernel
theorem d_D_difference_6 : decode c_D_difference 6 = .ok (.invokestatic 64, 3) := by decide +kernel
theorem d_D_difference_9 : decode c_D_difference 9 = .ok (.aload_n 0, 1) := by decide +kernel
theorem d_D_difference_10 : decode c_D_difference 10 = .ok (.getfield 14, 3) := by decide +kernel
theorem d_D_difference_13 : decode c_D_difference 13 = .ok (.iload_n 1, 1) := by decide +kernel
theorem d_D_difference_14 : decode c_D_difference 14 = .ok (.iload_n 2, 1) := by decide +kernel
theorem d_D_difference_15 : decode c_D_difference 15 = .ok (.invokevirtual 102, 3) := by decide +kernel
theorem d_D_difference_18 : decode c_D_difference 18 = .ok (.ireturn, 1) := by decide +kernel
theorem d_D_kept_0 : decode c_D_kept 0 = .ok (.iload_n 1, 1) := by decide +kernel
theorem d_D_kept_1 : decode c_D_kept 1 = .ok (.invokestatic 64, 3) := by decide +kernel
theorem d_D_kept_4 : decode c_D_kept 4 = .ok (.aload_n 0, 1) := by decide +kernel
theorem d_D_kept_5 : decode c_D_kept 5 = .ok (.getfield 14, 3) := by decide +kernel
theorem d_D_kept_8 : decode c_D_kept 8 = .ok (.iconst 4, 1) := by decide +kernel
theorem d_D_kept_9 : decode c_D_kept 9 = .ok (.iload_n 1, 1) := by decide +kernel
theorem d_D_kept_10 : decode c_D_kept 10 = .ok (.invokevirtual 106, 3) := by decide +kernel
theorem d_D_kept_13 : decode c_D_kept 13 = .ok (.ireturn, 1) := by decide +kernel
theorem d_D_sum_0 : decode c_D_sum 0 = .ok (.iload_n 1, 1) := by decide +kernel
theorem d_D_sum_1 : decode c_D_sum 1 = .ok (.invokestatic 64, 3) := by decide +kernel
theorem d_D_sum_4 : decode c_D_sum 4 = .ok (.aload_n 0, 1) := by decide +kernel
theorem d_D_sum_5 : decode c_D_sum 5 = .ok (.getfield 14, 3) := by decide +kernel
theorem d_D_sum_8 : decode c_D_sum 8 = .ok (.iconst 4, 1) := by decide +kernel
theorem d_D_sum_9 : decode c_D_sum 9 = .ok (.iload_n 1, 1) := by decide +kernel
theorem d_D_sum_10 : decode c_D_sum 10 = .ok (.invokevirtual 109, 3) := by decide +kernel
theorem d_D_sum_13 : decode c_D_sum 13 = .ok (.ireturn, 1) := by decide +kernel
theorem d_D_odds_0 : decode c_D_odds 0 = .ok (.iload_n 1, 1) := by decide +kernel
theorem d_D_odds_1 : decode c_D_odds 1 = .ok (.invokestatic 64, 3) := by decide +kernel
theorem d_D_odds_4 : decode c_D_odds 4 = .ok (.iload_n 2, 1) := by decide +kernel
theorem d_D_odds_5 : decode c_D_odds 5 = .ok (.invokestatic 112, 3) := by decide +kernel
theorem d_D_odds_8 : decode c_D_odds 8 = .ok (.aload_n 0, 1) := by decide +kernel
theorem d_D_odds_9 : decode c_D_odds 9 = .ok (.getfield 28, 3) := by decide +kernel
theorem d_D_odds_12 : decode c_D_odds 12 = .ok (.invokevirtual 115, 3) := by decide +kernel
theorem d_D_odds_15 : decode c_D_odds 15 = .ok (.iconst 0, 1) := by decide +kernel
theorem d_D_odds_16 : decode c_D_odds 16 = .ok (.istore_n 3, 1) := by decide +kernel
theorem d_D_odds_17 : decode c_D_odds 17 = .ok (.iload_n 3, 1) := by decide +kernel
theorem d_D_odds_18 : decode c_D_odds 18 = .ok (.aload_n 0, 1) := by decide +kernel
theorem d_D_odds_19 : decode c_D_odds 19 = .ok (.getfield 14, 3) := by decide +kernel
theorem d_D_odds_22 : decode c_D_odds 22 = .ok (.getfield 99, 3) := by decide +kernel
theorem d_D_odds_25 : decode c_D_odds 25 = .ok (.if_icmp .ge 54, 3) := by decide +kernel
theorem d_D_odds_28 : decode c_D_odds 28 = .ok (.aload_n 0, 1) := by decide +kernel
theorem d_D_odds_29 : decode c_D_odds 29 = .ok (.getfield 14, 3) := by decide +kernel
theorem d_D_odds_32 : decode c_D_odds 32 = .ok (.iload_n 3, 1) := by decide +kernel
theorem d_D_odds_33 : decode c_D_odds 33 = .ok (.iload_n 1, 1) := by decide +kernel
theorem d_D_odds_34 : decode c_D_odds 34 = .ok (.invokevirtual 118, 3) := by decide +kernel
theorem d_D_odds_37 : decode c_D_odds 37 = .ok (.ifCond .eq 36, 3) := by decide +kernel
theorem d_D_odds_40 : decode c_D_odds 40 = .ok (.aload_n 0, 1) := by decide +kernel
theorem d_D_odds_41 : decode c_D_odds 41 = .ok (.getfield 14, 3) := by decide +kernel
theorem d_D_odds_44 : decode c_D_odds 44 = .ok (.iload_n 3, 1) := by decide +kernel
theorem d_D_odds_45 : decode c_D_odds 45 = .ok (.iload_n 1, 1) := by decide +kernel
theorem d_D_odds_46 : decode c_D_odds 46 = .ok (.invokevirtual 102, 3) := by decide +kernel
theorem d_D_odds_49 : decode c_D_odds 49 = .ok (.istore 4, 2) := by decide +kernel
theorem d_D_odds_51 : decode c_D_odds 51 = .ok (.aload_n 0, 1) := by decide +kernel
theorem d_D_odds_52 : decode c_D_odds 52 = .ok (.getfield 28, 3) := by decide +kernel
theorem d_D_odds_55 : decode c_D_odds 55 = .ok (.iload 4, 2) := by decide +kernel
theorem d_D_odds_57 : decode c_D_odds 57 = .ok (.invokestatic 122, 3) := by decide +kernel
theorem d_D_odds_60 : decode c_D_odds 60 = .ok (.iload 4, 2) := by decide +kernel
theorem d_D_odds_62 : decode c_D_odds 62 = .ok (.ifCond .le 7, 3) := by decide +kernel
theorem d_D_odds_65 : decode c_D_odds 65 = .ok (.iconst 1, 1) := by decide +kernel
theorem d_D_odds_66 : decode c_D_odds 66 = .ok (.goto 4, 3) := by decide +kernel
theorem d_D_odds_69 : decode c_D_odds 69 = .ok (.iconst 0, 1) := by decide +kernel
theorem d_D_odds_70 : decode c_D_odds 70 = .ok (.invokevirtual 127, 3) := by decide +kernel
theorem d_D_odds_73 : decode c_D_odds 73 = .ok (.iinc 3 1, 3) := by decide +kernel
theorem d_D_odds_76 : decode c_D_odds 76 = .ok (.goto (-59), 3) := by decide +kernel
theorem d_D_odds_79 : decode c_D_odds 79 = .ok (.aload_n 0, 1) := by decide +kernel
theorem d_D_odds_80 : decode c_D_odds 80 = .ok (.getfield 28, 3) := by decide +kernel
theorem d_D_odds_83 : decode c_D_odds 83 = .ok (.invokevirtual 131, 3) := by decide +kernel
theorem d_D_odds_86 : decode c_D_odds 86 = .ok (.aload_n 0, 1) := by decide +kernel
theorem d_D_odds_87 : decode c_D_odds 87 = .ok (.getfield 28, 3) := by decide +kernel
theorem d_D_odds_90 : decode c_D_odds 90 = .ok (.invokevirtual 135, 3) := by decide +kernel
theorem d_D_odds_93 : decode c_D_odds 93 = .ok (.iload_n 2, 1) := by decide +kernel
theorem d_D_odds_94 : decode c_D_odds 94 = .ok (.invokestatic 138, 3) := by decide +kernel
theorem d_D_odds_97 : decode c_D_odds 97 = .ok (.lreturn, 1) := by decide +kernel
theorem d_D_rank_0 : decode c_D_rank 0 = .ok (.aload_n 0, 1) := by decide +kernel
theorem d_D_rank_1 : decode c_D_rank 1 = .ok (.iload_n 1, 1) := by decide +kernel
theorem d_D_rank_2 : decode c_D_rank 2 = .ok (.invokevirtual 83, 3) := by decide +kernel
theorem d_D_rank_5 : decode c_D_rank 5 = .ok (.iload_n 2, 1) := by decide +kernel
theorem d_D_rank_6 : decode c_D_rank 6 = .ok (.invokestatic 64, 3) := by decide +kernel
theorem d_D_rank_9 : decode c_D_rank 9 = .ok (.aload_n 0, 1) := by decide +kernel
theorem d_D_rank_10 : decode c_D_rank 10 = .ok (.getfield 14, 3) := by decide +kernel
theorem d_D_rank_13 : decode c_D_rank 13 = .ok (.iload_n 1, 1) := by decide +kernel
theorem d_D_rank_14 : decode c_D_rank 14 = .ok (.iload_n 2, 1) := by decide +kernel
theorem d_D_rank_15 : decode c_D_rank 15 = .ok (.invokevirtual 142, 3) := by decide +kernel
theorem d_D_rank_18 : decode c_D_rank 18 = .ok (.ireturn, 1) := by decide +kernel
theorem d_D_rankOdds_0 : decode c_D_rankOdds 0 = .ok (.iload_n 1, 1) := by decide +kernel
theorem d_D_rankOdds_1 : decode c_D_rankOdds 1 = .ok (.invokestatic 64, 3) := by decide +kernel
theorem d_D_rankOdds_4 : decode c_D_rankOdds 4 = .ok (.iload_n 2, 1) := by decide +kernel
theorem d_D_rankOdds_5 : decode c_D_rankOdds 5 = .ok (.invokestatic 112, 3) := by decide +kernel
theorem d_D_rankOdds_8 : decode c_D_rankOdds 8 = .ok (.aload_n 0, 1) := by decide +kernel
theorem d_D_rankOdds_9 : decode c_D_rankOdds 9 = .ok (.getfield 28, 3) := by decide +kernel
theorem d_D_rankOdds_12 : decode c_D_rankOdds 12 = .ok (.invokevirtual 115, 3) := by decide +kernel
theorem d_D_rankOdds_15 : decode c_D_rankOdds 15 = .ok (.iconst 0, 1) := by decide +kernel
theorem d_D_rankOdds_16 : decode c_D_rankOdds 16 = .ok (.istore_n 3, 1) := by decide +kernel
theorem d_D_rankOdds_17 : decode c_D_rankOdds 17 = .ok (.iload_n 3, 1) := by decide +kernel
theorem d_D_rankOdds_18 : decode c_D_rankOdds 18 = .ok (.aload_n 0, 1) := by decide +kernel
theorem d_D_rankOdds_19 : decode c_D_rankOdds 19 = .ok (.getfield 14, 3) := by decide +kernel
theorem d_D_rankOdds_22 : decode c_D_rankOdds 22 = .ok (.getfield 99, 3) := by decide +kernel
theorem d_D_rankOdds_25 : decode c_D_rankOdds 25 = .ok (.if_icmp .ge 51, 3) := by decide +kernel
theorem d_D_rankOdds_28 : decode c_D_rankOdds 28 = .ok (.aload_n 0, 1) := by decide +kernel
theorem d_D_rankOdds_29 : decode c_D_rankOdds 29 = .ok (.getfield 14, 3) := by decide +kernel
theorem d_D_rankOdds_32 : decode c_D_rankOdds 32 = .ok (.iload_n 3, 1) := by decide +kernel
theorem d_D_rankOdds_33 : decode c_D_rankOdds 33 = .ok (.iload_n 1, 1) := by decide +kernel
theorem d_D_rankOdds_34 : decode c_D_rankOdds 34 = .ok (.invokevirtual 142, 3) := by decide +kernel
theorem d_D_rankOdds_37 : decode c_D_rankOdds 37 = .ok (.istore 4, 2) := by decide +kernel
theorem d_D_rankOdds_39 : decode c_D_rankOdds 39 = .ok (.iload 4, 2) := by decide +kernel
theorem d_D_rankOdds_41 : decode c_D_rankOdds 41 = .ok (.ifCond .le 29, 3) := by decide +kernel
theorem d_D_rankOdds_44 : decode c_D_rankOdds 44 = .ok (.aload_n 0, 1) := by decide +kernel
theorem d_D_rankOdds_45 : decode c_D_rankOdds 45 = .ok (.getfield 28, 3) := by decide +kernel
theorem d_D_rankOdds_48 : decode c_D_rankOdds 48 = .ok (.iload 4, 2) := by decide +kernel
theorem d_D_rankOdds_50 : decode c_D_rankOdds 50 = .ok (.aload_n 0, 1) := by decide +kernel
theorem d_D_rankOdds_51 : decode c_D_rankOdds 51 = .ok (.getfield 14, 3) := by decide +kernel
theorem d_D_rankOdds_54 : decode c_D_rankOdds 54 = .ok (.iload_n 3, 1) := by decide +kernel
theorem d_D_rankOdds_55 : decode c_D_rankOdds 55 = .ok (.iload_n 1, 1) := by decide +kernel
theorem d_D_rankOdds_56 : decode c_D_rankOdds 56 = .ok (.invokevirtual 102, 3) := by decide +kernel
theorem d_D_rankOdds_59 : decode c_D_rankOdds 59 = .ok (.ifCond .le 7, 3) := by decide +kernel
theorem d_D_rankOdds_62 : decode c_D_rankOdds 62 = .ok (.iconst 1, 1) := by decide +kernel
theorem d_D_rankOdds_63 : decode c_D_rankOdds 63 = .ok (.goto 4, 3) := by decide +kernel
theorem d_D_rankOdds_66 : decode c_D_rankOdds 66 = .ok (.iconst 0, 1) := by decide +kernel
theorem d_D_rankOdds_67 : decode c_D_rankOdds 67 = .ok (.invokevirtual 127, 3) := by decide +kernel
theorem d_D_rankOdds_70 : decode c_D_rankOdds 70 = .ok (.iinc 3 1, 3) := by decide +kernel
theorem d_D_rankOdds_73 : decode c_D_rankOdds 73 = .ok (.goto (-56), 3) := by decide +kernel
theorem d_D_rankOdds_76 : decode c_D_rankOdds 76 = .ok (.aload_n 0, 1) := by decide +kernel
theorem d_D_rankOdds_77 : decode c_D_rankOdds 77 = .ok (.getfield 28, 3) := by decide +kernel
theorem d_D_rankOdds_80 : decode c_D_rankOdds 80 = .ok (.invokevirtual 131, 3) := by decide +kernel
theorem d_D_rankOdds_83 : decode c_D_rankOdds 83 = .ok (.aload_n 0, 1) := by decide +kernel
theorem d_D_rankOdds_84 : decode c_D_rankOdds 84 = .ok (.getfield 28, 3) := by decide +kernel
theorem d_D_rankOdds_87 : decode c_D_rankOdds 87 = .ok (.invokevirtual 135, 3) := by decide +kernel
theorem d_D_rankOdds_90 : decode c_D_rankOdds 90 = .ok (.iload_n 2, 1) := by decide +kernel
theorem d_D_rankOdds_91 : decode c_D_rankOdds 91 = .ok (.invokestatic 138, 3) := by decide +kernel
theorem d_D_rankOdds_94 : decode c_D_rankOdds 94 = .ok (.lreturn, 1) := by decide +kernel
theorem d_D_stopped_0 : decode c_D_stopped 0 = .ok (.iload_n 1, 1) := by decide +kernel
theorem d_D_stopped_1 : decode c_D_stopped 1 = .ok (.invokestatic 64, 3) := by decide +kernel
theorem d_D_stopped_4 : decode c_D_stopped 4 = .ok (.iload_n 2, 1) := by decide +kernel
theorem d_D_stopped_5 : decode c_D_stopped 5 = .ok (.iload_n 3, 1) := by decide +kernel
theorem d_D_stopped_6 : decode c_D_stopped 6 = .ok (.invokestatic 145, 3) := by decide +kernel
theorem d_D_stopped_9 : decode c_D_stopped 9 = .ok (.iconst 0, 1) := by decide +kernel
theorem d_D_stopped_10 : decode c_D_stopped 10 = .ok (.istore 4, 2) := by decide +kernel
theorem d_D_stopped_12 : decode c_D_stopped 12 = .ok (.iconst 0, 1) := by decide +kernel
theorem d_D_stopped_13 : decode c_D_stopped 13 = .ok (.istore 5, 2) := by decide +kernel
theorem d_D_stopped_15 : decode c_D_stopped 15 = .ok (.iload 5, 2) := by decide +kernel
theorem d_D_stopped_17 : decode c_D_stopped 17 = .ok (.aload_n 0, 1) := by decide +kernel
theorem d_D_stopped_18 : decode c_D_stopped 18 = .ok (.getfield 14, 3) := by decide +kernel
theorem d_D_stopped_21 : decode c_D_stopped 21 = .ok (.getfield 99, 3) := by decide +kernel
theorem d_D_stopped_24 : decode c_D_stopped 24 = .ok (.if_icmp .ge 52, 3) := by decide +kernel
theorem d_D_stopped_27 : decode c_D_stopped 27 = .ok (.iload 4, 2) := by decide +kernel
theorem d_D_stopped_29 : decode c_D_stopped 29 = .ok (.aload_n 0, 1) := by decide +kernel
theorem d_D_stopped_30 : decode c_D_stopped 30 = .ok (.getfield 14, 3) := by decide +kernel
theorem d_D_stopped_33 : decode c_D_stopped 33 = .ok (.iload 5, 2) := by decide +kernel
theorem d_D_stopped_35 : decode c_D_stopped 35 = .ok (.iload_n 1, 1) := by decide +kernel
theorem d_D_stopped_36 : decode c_D_stopped 36 = .ok (.invokevirtual 148, 3) := by decide +kernel
theorem d_D_stopped_39 : decode c_D_stopped 39 = .ok (.invokestatic 151, 3) := by decide +kernel
theorem d_D_stopped_42 : decode c_D_stopped 42 = .ok (.isub, 1) := by decide +kernel
theorem d_D_stopped_43 : decode c_D_stopped 43 = .ok (.istore 4, 2) := by decide +kernel
theorem d_D_stopped_45 : decode c_D_stopped 45 = .ok (.iload 4, 2) := by decide +kernel
theorem d_D_stopped_47 : decode c_D_stopped 47 = .ok (.iload_n 2, 1) := by decide +kernel
theorem d_D_stopped_48 : decode c_D_stopped 48 = .ok (.if_icmp .ne 8, 3) := by decide +kernel
theorem d_D_stopped_51 : decode c_D_stopped 51 = .ok (.iconst 2, 1) := by decide +kernel
theorem d_D_stopped_52 : decode c_D_stopped 52 = .ok (.iload 5, 2) := by decide +kernel
theorem d_D_stopped_54 : decode c_D_stopped 54 = .ok (.imul, 1) := by decide +kernel
theorem d_D_stopped_55 : decode c_D_stopped 55 = .ok (.ireturn, 1) := by decide +kernel
theorem d_D_stopped_56 : decode c_D_stopped 56 = .ok (.iload 4, 2) := by decide +kernel
theorem d_D_stopped_58 : decode c_D_stopped 58 = .ok (.iload_n 3, 1) := by decide +kernel
theorem d_D_stopped_59 : decode c_D_stopped 59 = .ok (.ineg, 1) := by decide +kernel
theorem d_D_stopped_60 : decode c_D_stopped 60 = .ok (.if_icmp .ne 10, 3) := by decide +kernel
theorem d_D_stopped_63 : decode c_D_stopped 63 = .ok (.iconst 2, 1) := by decide +kernel
theorem d_D_stopped_64 : decode c_D_stopped 64 = .ok (.iload 5, 2) := by decide +kernel
theorem d_D_stopped_66 : decode c_D_stopped 66 = .ok (.imul, 1) := by decide +kernel
theorem d_D_stopped_67 : decode c_D_stopped 67 = .ok (.iconst 1, 1) := by decide +kernel
theorem d_D_stopped_68 : decode c_D_stopped 68 = .ok (.iadd, 1) := by decide +kernel
theorem d_D_stopped_69 : decode c_D_stopped 69 = .ok (.ireturn, 1) := by decide +kernel
theorem d_D_stopped_70 : decode c_D_stopped 70 = .ok (.iinc 5 1, 3) := by decide +kernel
theorem d_D_stopped_73 : decode c_D_stopped 73 = .ok (.goto (-58), 3) := by decide +kernel
theorem d_D_stopped_76 : decode c_D_stopped 76 = .ok (.iconst (-1), 1) := by decide +kernel
theorem d_D_stopped_77 : decode c_D_stopped 77 = .ok (.ireturn, 1) := by decide +kernel
theorem d_D_crossing_0 : decode c_D_crossing 0 = .ok (.iload 4, 2) := by decide +kernel
theorem d_D_crossing_2 : decode c_D_crossing 2 = .ok (.invokestatic 112, 3) := by decide +kernel
theorem d_D_crossing_5 : decode c_D_crossing 5 = .ok (.iload_n 1, 1) := by decide +kernel
theorem d_D_crossing_6 : decode c_D_crossing 6 = .ok (.iconst 0, 1) := by decide +kernel
theorem d_D_crossing_7 : decode c_D_crossing 7 = .ok (.bipush 40, 2) := by decide +kernel
theorem d_D_crossing_9 : decode c_D_crossing 9 = .ok (.invokestatic 67, 3) := by decide +kernel
theorem d_D_crossing_12 : decode c_D_crossing 12 = .ok (.iload_n 2, 1) := by decide +kernel
theorem d_D_crossing_13 : decode c_D_crossing 13 = .ok (.iload_n 3, 1) := by decide +kernel
theorem d_D_crossing_14 : decode c_D_crossing 14 = .ok (.invokestatic 145, 3) := by decide +kernel
theorem d_D_crossing_17 : decode c_D_crossing 17 = .ok (.aload_n 0, 1) := by decide +kernel
theorem d_D_crossing_18 : decode c_D_crossing 18 = .ok (.getfield 35, 3) := by decide +kernel
theorem d_D_crossing_21 : decode c_D_crossing 21 = .ok (.iload_n 2, 1) := by decide +kernel
theorem d_D_crossing_22 : decode c_D_crossing 22 = .ok (.iload_n 3, 1) := by decide +kernel
theorem d_D_crossing_23 : decode c_D_crossing 23 = .ok (.invokevirtual 156, 3) := by decide +kernel
theorem d_D_crossing_26 : decode c_D_crossing 26 = .ok (.iconst 0, 1) := by decide +kernel
theorem d_D_crossing_27 : decode c_D_crossing 27 = .ok (.istore 5, 2) := by decide +kernel
theorem d_D_crossing_29 : decode c_D_crossing 29 = .ok (.iload 5, 2) := by decide +kernel
theorem d_D_crossing_31 : decode c_D_crossing 31 = .ok (.iload_n 1, 1) := by decide +kernel
theorem d_D_crossing_32 : decode c_D_crossing 32 = .ok (.if_icmp .ge 16, 3) := by decide +kernel
theorem d_D_crossing_35 : decode c_D_crossing 35 = .ok (.aload_n 0, 1) := by decide +kernel
theorem d_D_crossing_36 : decode c_D_crossing 36 = .ok (.getfield 35, 3) := by decide +kernel
theorem d_D_crossing_39 : decode c_D_crossing 39 = .ok (.invokevirtual 159, 3) := by decide +kernel
theorem d_D_crossing_42 : decode c_D_crossing 42 = .ok (.iinc 5 1, 3) := by decide +kernel
theorem d_D_crossing_45 : decode c_D_crossing 45 = .ok (.goto (-16), 3) := by decide +kernel
theorem d_D_crossing_48 : decode c_D_crossing 48 = .ok (.aload_n 0, 1) := by decide +kernel
theorem d_D_crossing_49 : decode c_D_crossing 49 = .ok (.getfield 35, 3) := by decide +kernel
theorem d_D_crossing_52 : decode c_D_crossing 52 = .ok (.getfield 162, 3) := by decide +kernel
theorem d_D_crossing_55 : decode c_D_crossing 55 = .ok (.aload_n 0, 1) := by decide +kernel
theorem d_D_crossing_56 : decode c_D_crossing 56 = .ok (.getfield 35, 3) := by decide +kernel
theorem d_D_crossing_59 : decode c_D_crossing 59 = .ok (.getfield 166, 3) := by decide +kernel
theorem d_D_crossing_62 : decode c_D_crossing 62 = .ok (.iload 4, 2) := by decide +kernel
theorem d_D_crossing_64 : decode c_D_crossing 64 = .ok (.invokestatic 138, 3) := by decide +kernel
theorem d_D_crossing_67 : decode c_D_crossing 67 = .ok (.lreturn, 1) := by decide +kernel
theorem d_D_least_0 : decode c_D_least 0 = .ok (.iload 4, 2) := by decide +kernel
theorem d_D_least_2 : decode c_D_least 2 = .ok (.iconst 1, 1) := by decide +kernel
theorem d_D_least_3 : decode c_D_least 3 = .ok (.sipush 1000, 3) := by decide +kernel
theorem d_D_least_6 : decode c_D_least 6 = .ok (.invokestatic 67, 3) := by decide +kernel
theorem d_D_least_9 : decode c_D_least 9 = .ok (.iload_n 3, 1) := by decide +kernel
theorem d_D_least_10 : decode c_D_least 10 = .ok (.iconst 0, 1) := by decide +kernel
theorem d_D_least_11 : decode c_D_least 11 = .ok (.iload 4, 2) := by decide +kernel
theorem d_D_least_13 : decode c_D_least 13 = .ok (.invokestatic 67, 3) := by decide +kernel
theorem d_D_least_16 : decode c_D_least 16 = .ok (.iload_n 1, 1) := by decide +kernel
theorem d_D_least_17 : decode c_D_least 17 = .ok (.iload_n 2, 1) := by decide +kernel
theorem d_D_least_18 : decode c_D_least 18 = .ok (.invokestatic 145, 3) := by decide +kernel
theorem d_D_least_21 : decode c_D_least 21 = .ok (.aload_n 0, 1) := by decide +kernel
theorem d_D_least_22 : decode c_D_least 22 = .ok (.getfield 35, 3) := by decide +kernel
theorem d_D_least_25 : decode c_D_least 25 = .ok (.iload_n 1, 1) := by decide +kernel
theorem d_D_least_26 : decode c_D_least 26 = .ok (.iload_n 2, 1) := by decide +kernel
theorem d_D_least_27 : decode c_D_least 27 = .ok (.invokevirtual 156, 3) := by decide +kernel
theorem d_D_least_30 : decode c_D_least 30 = .ok (.iconst 0, 1) := by decide +kernel
theorem d_D_least_31 : decode c_D_least 31 = .ok (.istore 5, 2) := by decide +kernel
theorem d_D_least_33 : decode c_D_least 33 = .ok (.iload 5, 2) := by decide +kernel
theorem d_D_least_35 : decode c_D_least 35 = .ok (.bipush 40, 2) := by decide +kernel
theorem d_D_least_37 : decode c_D_least 37 = .ok (.if_icmp .gt 44, 3) := by decide +kernel
theorem d_D_least_40 : decode c_D_least 40 = .ok (.aload_n 0, 1) := by decide +kernel
theorem d_D_least_41 : decode c_D_least 41 = .ok (.getfield 35, 3) := by decide +kernel
theorem d_D_least_44 : decode c_D_least 44 = .ok (.getfield 162, 3) := by decide +kernel
theorem d_D_least_47 : decode c_D_least 47 = .ok (.iload 4, 2) := by decide +kernel
theorem d_D_least_49 : decode c_D_least 49 = .ok (.i2l, 1) := by decide +kernel
theorem d_D_least_50 : decode c_D_least 50 = .ok (.lmul, 1) := by decide +kernel
theorem d_D_least_51 : decode c_D_least 51 = .ok (.aload_n 0, 1) := by decide +kernel
theorem d_D_least_52 : decode c_D_least 52 = .ok (.getfield 35, 3) := by decide +kernel
theorem d_D_least_55 : decode c_D_least 55 = .ok (.getfield 166, 3) := by decide +kernel
theorem d_D_least_58 : decode c_D_least 58 = .ok (.iload_n 3, 1) := by decide +kernel
theorem d_D_least_59 : decode c_D_least 59 = .ok (.i2l, 1) := by decide +kernel
theorem d_D_least_60 : decode c_D_least 60 = .ok (.lmul, 1) := by decide +kernel
theorem d_D_least_61 : decode c_D_least 61 = .ok (.lcmp, 1) := by decide +kernel
theorem d_D_least_62 : decode c_D_least 62 = .ok (.ifCond .lt 6, 3) := by decide +kernel
theorem d_D_least_65 : decode c_D_least 65 = .ok (.iload 5, 2) := by decide +kernel
theorem d_D_least_67 : decode c_D_least 67 = .ok (.ireturn, 1) := by decide +kernel
theorem d_D_least_68 : decode c_D_least 68 = .ok (.aload_n 0, 1) := by decide +kernel
theorem d_D_least_69 : decode c_D_least 69 = .ok (.getfield 35, 3) := by decide +kernel
theorem d_D_least_72 : decode c_D_least 72 = .ok (.invokevirtual 159, 3) := by decide +kernel
theorem d_D_least_75 : decode c_D_least 75 = .ok (.iinc 5 1, 3) := by decide +kernel
theorem d_D_least_78 : decode c_D_least 78 = .ok (.goto (-45), 3) := by decide +kernel
theorem d_D_least_81 : decode c_D_least 81 = .ok (.iconst (-1), 1) := by decide +kernel
theorem d_D_least_82 : decode c_D_least 82 = .ok (.ireturn, 1) := by decide +kernel
theorem d_D_mean_0 : decode c_D_mean 0 = .ok (.iload_n 1, 1) := by decide +kernel
theorem d_D_mean_1 : decode c_D_mean 1 = .ok (.invokestatic 43, 3) := by decide +kernel
theorem d_D_mean_4 : decode c_D_mean 4 = .ok (.iload_n 2, 1) := by decide +kernel
theorem d_D_mean_5 : decode c_D_mean 5 = .ok (.invokestatic 64, 3) := by decide +kernel
theorem d_D_mean_8 : decode c_D_mean 8 = .ok (.iload_n 3, 1) := by decide +kernel
theorem d_D_mean_9 : decode c_D_mean 9 = .ok (.invokestatic 112, 3) := by decide +kernel
theorem d_D_mean_12 : decode c_D_mean 12 = .ok (.aload_n 0, 1) := by decide +kernel
theorem d_D_mean_13 : decode c_D_mean 13 = .ok (.getfield 14, 3) := by decide +kernel
theorem d_D_mean_16 : decode c_D_mean 16 = .ok (.iload_n 1, 1) := by decide +kernel
theorem d_D_mean_17 : decode c_D_mean 17 = .ok (.iload_n 2, 1) := by decide +kernel
theorem d_D_mean_18 : decode c_D_mean 18 = .ok (.invokevirtual 109, 3) := by decide +kernel
theorem d_D_mean_21 : decode c_D_mean 21 = .ok (.i2l, 1) := by decide +kernel
theorem d_D_mean_22 : decode c_D_mean 22 = .ok (.aload_n 0, 1) := by decide +kernel
theorem d_D_mean_23 : decode c_D_mean 23 = .ok (.getfield 14, 3) := by decide +kernel
theorem d_D_mean_26 : decode c_D_mean 26 = .ok (.iload_n 1, 1) := by decide +kernel
theorem d_D_mean_27 : decode c_D_mean 27 = .ok (.iload_n 2, 1) := by decide +kernel
theorem d_D_mean_28 : decode c_D_mean 28 = .ok (.invokevirtual 106, 3) := by decide +kernel
theorem d_D_mean_31 : decode c_D_mean 31 = .ok (.i2l, 1) := by decide +kernel
theorem d_D_mean_32 : decode c_D_mean 32 = .ok (.iload_n 3, 1) := by decide +kernel
theorem d_D_mean_33 : decode c_D_mean 33 = .ok (.invokestatic 138, 3) := by decide +kernel
theorem d_D_mean_36 : decode c_D_mean 36 = .ok (.lreturn, 1) := by decide +kernel
theorem d_D_weight_0 : decode c_D_weight 0 = .ok (.iload_n 1, 1) := by decide +kernel
theorem d_D_weight_1 : decode c_D_weight 1 = .ok (.invokestatic 43, 3) := by decide +kernel
theorem d_D_weight_4 : decode c_D_weight 4 = .ok (.iload_n 2, 1) := by decide +kernel
theorem d_D_weight_5 : decode c_D_weight 5 = .ok (.invokestatic 64, 3) := by decide +kernel
theorem d_D_weight_8 : decode c_D_weight 8 = .ok (.iload_n 3, 1) := by decide +kernel
theorem d_D_weight_9 : decode c_D_weight 9 = .ok (.invokestatic 112, 3) := by decide +kernel
theorem d_D_weight_12 : decode c_D_weight 12 = .ok (.aload_n 0, 1) := by decide +kernel
theorem d_D_weight_13 : decode c_D_weight 13 = .ok (.getfield 14, 3) := by decide +kernel
theorem d_D_weight_16 : decode c_D_weight 16 = .ok (.iload_n 1, 1) := by decide +kernel
theorem d_D_weight_17 : decode c_D_weight 17 = .ok (.iload_n 2, 1) := by decide +kernel
theorem d_D_weight_18 : decode c_D_weight 18 = .ok (.invokevirtual 106, 3) := by decide +kernel
theorem d_D_weight_21 : decode c_D_weight 21 = .ok (.i2l, 1) := by decide +kernel
theorem d_D_weight_22 : decode c_D_weight 22 = .ok (.aload_n 0, 1) := by decide +kernel
theorem d_D_weight_23 : decode c_D_weight 23 = .ok (.getfield 14, 3) := by decide +kernel
theorem d_D_weight_26 : decode c_D_weight 26 = .ok (.iconst 4, 1) := by decide +kernel
theorem d_D_weight_27 : decode c_D_weight 27 = .ok (.iload_n 2, 1) := by decide +kernel
theorem d_D_weight_28 : decode c_D_weight 28 = .ok (.invokevirtual 106, 3) := by decide +kernel
theorem d_D_weight_31 : decode c_D_weight 31 = .ok (.i2l, 1) := by decide +kernel
theorem d_D_weight_32 : decode c_D_weight 32 = .ok (.iload_n 3, 1) := by decide +kernel
theorem d_D_weight_33 : decode c_D_weight 33 = .ok (.invokestatic 138, 3) := by decide +kernel
theorem d_D_weight_36 : decode c_D_weight 36 = .ok (.lreturn, 1) := by decide +kernel
theorem d_D_joined_0 : decode c_D_joined 0 = .ok (.iload_n 1, 1) := by decide +kernel
theorem d_D_joined_1 : decode c_D_joined 1 = .ok (.invokestatic 64, 3) := by decide +kernel
theorem d_D_joined_4 : decode c_D_joined 4 = .ok (.iload_n 2, 1) := by decide +kernel
theorem d_D_joined_5 : decode c_D_joined 5 = .ok (.invokestatic 112, 3) := by decide +kernel
theorem d_D_joined_8 : decode c_D_joined 8 = .ok (.aload_n 0, 1) := by decide +kernel
theorem d_D_joined_9 : decode c_D_joined 9 = .ok (.getfield 14, 3) := by decide +kernel
theorem d_D_joined_12 : decode c_D_joined 12 = .ok (.iconst 4, 1) := by decide +kernel
theorem d_D_joined_13 : decode c_D_joined 13 = .ok (.iload_n 1, 1) := by decide +kernel
theorem d_D_joined_14 : decode c_D_joined 14 = .ok (.invokevirtual 109, 3) := by decide +kernel
theorem d_D_joined_17 : decode c_D_joined 17 = .ok (.i2l, 1) := by decide +kernel
theorem d_D_joined_18 : decode c_D_joined 18 = .ok (.aload_n 0, 1) := by decide +kernel
theorem d_D_joined_19 : decode c_D_joined 19 = .ok (.getfield 14, 3) := by decide +kernel
theorem d_D_joined_22 : decode c_D_joined 22 = .ok (.iconst 4, 1) := by decide +kernel
theorem d_D_joined_23 : decode c_D_joined 23 = .ok (.iload_n 1, 1) := by decide +kernel
theorem d_D_joined_24 : decode c_D_joined 24 = .ok (.invokevirtual 106, 3) := by decide +kernel
theorem d_D_joined_27 : decode c_D_joined 27 = .ok (.i2l, 1) := by decide +kernel
theorem d_D_joined_28 : decode c_D_joined 28 = .ok (.iload_n 2, 1) := by decide +kernel
theorem d_D_joined_29 : decode c_D_joined 29 = .ok (.invokestatic 138, 3) := by decide +kernel
theorem d_D_joined_32 : decode c_D_joined 32 = .ok (.lreturn, 1) := by decide +kernel
theorem d_D_reader_0 : decode c_D_reader 0 = .ok (.aload_n 0, 1) := by decide +kernel
theorem d_D_reader_1 : decode c_D_reader 1 = .ok (.iload_n 1, 1) := by decide +kernel
theorem d_D_reader_2 : decode c_D_reader 2 = .ok (.invokevirtual 61, 3) := by decide +kernel
theorem d_D_reader_5 : decode c_D_reader 5 = .ok (.iload_n 2, 1) := by decide +kernel
theorem d_D_reader_6 : decode c_D_reader 6 = .ok (.iconst 2, 1) := by decide +kernel
theorem d_D_reader_7 : decode c_D_reader 7 = .ok (.invokestatic 86, 3) := by decide +kernel
theorem d_D_reader_10 : decode c_D_reader 10 = .ok (.iload_n 3, 1) := by decide +kernel
theorem d_D_reader_11 : decode c_D_reader 11 = .ok (.iconst 0, 1) := by decide +kernel
theorem d_D_reader_12 : decode c_D_reader 12 = .ok (.ldc 169, 2) := by decide +kernel
theorem d_D_reader_14 : decode c_D_reader 14 = .ok (.invokestatic 67, 3) := by decide +kernel
theorem d_D_reader_17 : decode c_D_reader 17 = .ok (.aload_n 0, 1) := by decide +kernel
theorem d_D_reader_18 : decode c_D_reader 18 = .ok (.getfield 21, 3) := by decide +kernel
theorem d_D_reader_21 : decode c_D_reader 21 = .ok (.iload_n 1, 1) := by decide +kernel
theorem d_D_reader_22 : decode c_D_reader 22 = .ok (.iload_n 2, 1) := by decide +kernel
theorem d_D_reader_23 : decode c_D_reader 23 = .ok (.iload_n 3, 1) := by decide +kernel
theorem d_D_reader_24 : decode c_D_reader 24 = .ok (.invokevirtual 170, 3) := by decide +kernel
theorem d_D_reader_27 : decode c_D_reader 27 = .ok (.aload_n 0, 1) := by decide +kernel
theorem d_D_reader_28 : decode c_D_reader 28 = .ok (.getfield 21, 3) := by decide +kernel
theorem d_D_reader_31 : decode c_D_reader 31 = .ok (.iload_n 1, 1) := by decide +kernel
theorem d_D_reader_32 : decode c_D_reader 32 = .ok (.invokevirtual 173, 3) := by decide +kernel
theorem d_D_reader_35 : decode c_D_reader 35 = .ok (.ireturn, 1) := by decide +kernel
theorem d_D_unlike_0 : decode c_D_unlike 0 = .ok (.iload_n 1, 1) := by decide +kernel
theorem d_D_unlike_1 : decode c_D_unlike 1 = .ok (.aload_n 0, 1) := by decide +kernel
theorem d_D_unlike_2 : decode c_D_unlike 2 = .ok (.getfield 14, 3) := by decide +kernel
theorem d_D_unlike_5 : decode c_D_unlike 5 = .ok (.getfield 46, 3) := by decide +kernel
theorem d_D_unlike_8 : decode c_D_unlike 8 = .ok (.iconst 1, 1) := by decide +kernel
theorem d_D_unlike_9 : decode c_D_unlike 9 = .ok (.iadd, 1) := by decide +kernel
theorem d_D_unlike_10 : decode c_D_unlike 10 = .ok (.invokestatic 86, 3) := by decide +kernel
theorem d_D_unlike_13 : decode c_D_unlike 13 = .ok (.iload_n 1, 1) := by decide +kernel
theorem d_D_unlike_14 : decode c_D_unlike 14 = .ok (.istore_n 2, 1) := by decide +kernel
theorem d_D_unlike_15 : decode c_D_unlike 15 = .ok (.iload_n 2, 1) := by decide +kernel
theorem d_D_unlike_16 : decode c_D_unlike 16 = .ok (.aload_n 0, 1) := by decide +kernel
theorem d_D_unlike_17 : decode c_D_unlike 17 = .ok (.getfield 14, 3) := by decide +kernel
theorem d_D_unlike_20 : decode c_D_unlike 20 = .ok (.getfield 46, 3) := by decide +kernel
theorem d_D_unlike_23 : decode c_D_unlike 23 = .ok (.if_icmp .ge 22, 3) := by decide +kernel
theorem d_D_unlike_26 : decode c_D_unlike 26 = .ok (.aload_n 0, 1) := by decide +kernel
theorem d_D_unlike_27 : decode c_D_unlike 27 = .ok (.getfield 21, 3) := by decide +kernel
theorem d_D_unlike_30 : decode c_D_unlike 30 = .ok (.iload_n 2, 1) := by decide +kernel
theorem d_D_unlike_31 : decode c_D_unlike 31 = .ok (.invokevirtual 173, 3) := by decide +kernel
theorem d_D_unlike_34 : decode c_D_unlike 34 = .ok (.ifCond .eq 5, 3) := by decide +kernel
theorem d_D_unlike_37 : decode c_D_unlike 37 = .ok (.iload_n 2, 1) := by decide +kernel
theorem d_D_unlike_38 : decode c_D_unlike 38 = .ok (.ireturn, 1) := by decide +kernel
theorem d_D_unlike_39 : decode c_D_unlike 39 = .ok (.iinc 2 1, 3) := by decide +kernel
theorem d_D_unlike_42 : decode c_D_unlike 42 = .ok (.goto (-27), 3) := by decide +kernel
theorem d_D_unlike_45 : decode c_D_unlike 45 = .ok (.iconst (-1), 1) := by decide +kernel
theorem d_D_unlike_46 : decode c_D_unlike 46 = .ok (.ireturn, 1) := by decide +kernel
theorem d_D_price_0 : decode c_D_price 0 = .ok (.iload_n 1, 1) := by decide +kernel
theorem d_D_price_1 : decode c_D_price 1 = .ok (.invokestatic 64, 3) := by decide +kernel
theorem d_D_price_4 : decode c_D_price 4 = .ok (.iload_n 2, 1) := by decide +kernel
theorem d_D_price_5 : decode c_D_price 5 = .ok (.iconst 0, 1) := by decide +kernel
theorem d_D_price_6 : decode c_D_price 6 = .ok (.ldc 169, 2) := by decide +kernel
theorem d_D_price_8 : decode c_D_price 8 = .ok (.invokestatic 67, 3) := by decide +kernel
theorem d_D_price_11 : decode c_D_price 11 = .ok (.aload_n 0, 1) := by decide +kernel
theorem d_D_price_12 : decode c_D_price 12 = .ok (.getfield 39, 3) := by decide +kernel
theorem d_D_price_15 : decode c_D_price 15 = .ok (.iload_n 1, 1) := by decide +kernel
theorem d_D_price_16 : decode c_D_price 16 = .ok (.iload_n 2, 1) := by decide +kernel
theorem d_D_price_17 : decode c_D_price 17 = .ok (.iastore, 1) := by decide +kernel
theorem d_D_price_18 : decode c_D_price 18 = .ok (.return_, 1) := by decide +kernel
theorem d_D_lost_0 : decode c_D_lost 0 = .ok (.lconst 0, 1) := by decide +kernel
theorem d_D_lost_1 : decode c_D_lost 1 = .ok (.lstore_n 1, 1) := by decide +kernel
theorem d_D_lost_2 : decode c_D_lost 2 = .ok (.iconst 0, 1) := by decide +kernel
theorem d_D_lost_3 : decode c_D_lost 3 = .ok (.istore_n 3, 1) := by decide +kernel
theorem d_D_lost_4 : decode c_D_lost 4 = .ok (.iload_n 3, 1) := by decide +kernel
theorem d_D_lost_5 : decode c_D_lost 5 = .ok (.iconst 3, 1) := by decide +kernel
theorem d_D_lost_6 : decode c_D_lost 6 = .ok (.if_icmp .ge 30, 3) := by decide +kernel
theorem d_D_lost_9 : decode c_D_lost 9 = .ok (.lload_n 1, 1) := by decide +kernel
theorem d_D_lost_10 : decode c_D_lost 10 = .ok (.aload_n 0, 1) := by decide +kernel
theorem d_D_lost_11 : decode c_D_lost 11 = .ok (.getfield 39, 3) := by decide +kernel
theorem d_D_lost_14 : decode c_D_lost 14 = .ok (.iload_n 3, 1) := by decide +kernel
theorem d_D_lost_15 : decode c_D_lost 15 = .ok (.iaload, 1) := by decide +kernel
theorem d_D_lost_16 : decode c_D_lost 16 = .ok (.i2l, 1) := by decide +kernel
theorem d_D_lost_17 : decode c_D_lost 17 = .ok (.aload_n 0, 1) := by decide +kernel
theorem d_D_lost_18 : decode c_D_lost 18 = .ok (.getfield 14, 3) := by decide +kernel
theorem d_D_lost_21 : decode c_D_lost 21 = .ok (.iconst 4, 1) := by decide +kernel
theorem d_D_lost_22 : decode c_D_lost 22 = .ok (.iload_n 3, 1) := by decide +kernel
theorem d_D_lost_23 : decode c_D_lost 23 = .ok (.invokevirtual 109, 3) := by decide +kernel
theorem d_D_lost_26 : decode c_D_lost 26 = .ok (.i2l, 1) := by decide +kernel
theorem d_D_lost_27 : decode c_D_lost 27 = .ok (.lmul, 1) := by decide +kernel
theorem d_D_lost_28 : decode c_D_lost 28 = .ok (.lsub, 1) := by decide +kernel
theorem d_D_lost_29 : decode c_D_lost 29 = .ok (.lstore_n 1, 1) := by decide +kernel
theorem d_D_lost_30 : decode c_D_lost 30 = .ok (.iinc 3 1, 3) := by decide +kernel
theorem d_D_lost_33 : decode c_D_lost 33 = .ok (.goto (-29), 3) := by decide +kernel
theorem d_D_lost_36 : decode c_D_lost 36 = .ok (.lload_n 1, 1) := by decide +kernel
theorem d_D_lost_37 : decode c_D_lost 37 = .ok (.lreturn, 1) := by decide +kernel
theorem d_D_needIndex_0 : decode c_D_needIndex 0 = .ok (.iload_n 0, 1) := by decide +kernel
theorem d_D_needIndex_1 : decode c_D_needIndex 1 = .ok (.ifCond .lt 8, 3) := by decide +kernel
theorem d_D_needIndex_4 : decode c_D_needIndex 4 = .ok (.iload_n 0, 1) := by decide +kernel
theorem d_D_needIndex_5 : decode c_D_needIndex 5 = .ok (.iload_n 1, 1) := by decide +kernel
theorem d_D_needIndex_6 : decode c_D_needIndex 6 = .ok (.if_icmp .lt 13, 3) := by decide +kernel
theorem d_D_needIndex_9 : decode c_D_needIndex 9 = .ok (.new 177, 3) := by decide +kernel
theorem d_D_needIndex_12 : decode c_D_needIndex 12 = .ok (.dup, 1) := by decide +kernel
theorem d_D_needIndex_13 : decode c_D_needIndex 13 = .ok (.ldc 179, 2) := by decide +kernel
theorem d_D_needIndex_15 : decode c_D_needIndex 15 = .ok (.invokespecial 181, 3) := by decide +kernel
theorem d_D_needIndex_18 : decode c_D_needIndex 18 = .ok (.athrow, 1) := by decide +kernel
theorem d_D_needIndex_19 : decode c_D_needIndex 19 = .ok (.return_, 1) := by decide +kernel
theorem d_D_needShip_0 : decode c_D_needShip 0 = .ok (.iload_n 0, 1) := by decide +kernel
theorem d_D_needShip_1 : decode c_D_needShip 1 = .ok (.iconst 4, 1) := by decide +kernel
theorem d_D_needShip_2 : decode c_D_needShip 2 = .ok (.invokestatic 86, 3) := by decide +kernel
theorem d_D_needShip_5 : decode c_D_needShip 5 = .ok (.return_, 1) := by decide +kernel
theorem d_D_needKind_0 : decode c_D_needKind 0 = .ok (.iload_n 0, 1) := by decide +kernel
theorem d_D_needKind_1 : decode c_D_needKind 1 = .ok (.iconst 3, 1) := by decide +kernel
theorem d_D_needKind_2 : decode c_D_needKind 2 = .ok (.invokestatic 86, 3) := by decide +kernel
theorem d_D_needKind_5 : decode c_D_needKind 5 = .ok (.return_, 1) := by decide +kernel
theorem d_D_needPart_0 : decode c_D_needPart 0 = .ok (.iload_n 0, 1) := by decide +kernel
theorem d_D_needPart_1 : decode c_D_needPart 1 = .ok (.iconst 2, 1) := by decide +kernel
theorem d_D_needPart_2 : decode c_D_needPart 2 = .ok (.invokestatic 86, 3) := by decide +kernel
theorem d_D_needPart_5 : decode c_D_needPart 5 = .ok (.return_, 1) := by decide +kernel
theorem d_D_needHaul_0 : decode c_D_needHaul 0 = .ok (.iload_n 1, 1) := by decide +kernel
theorem d_D_needHaul_1 : decode c_D_needHaul 1 = .ok (.aload_n 0, 1) := by decide +kernel
theorem d_D_needHaul_2 : decode c_D_needHaul 2 = .ok (.getfield 14, 3) := by decide +kernel
theorem d_D_needHaul_5 : decode c_D_needHaul 5 = .ok (.getfield 46, 3) := by decide +kernel
theorem d_D_needHaul_8 : decode c_D_needHaul 8 = .ok (.invokestatic 86, 3) := by decide +kernel
theorem d_D_needHaul_11 : decode c_D_needHaul 11 = .ok (.return_, 1) := by decide +kernel
theorem d_D_needPair_0 : decode c_D_needPair 0 = .ok (.iload_n 1, 1) := by decide +kernel
theorem d_D_needPair_1 : decode c_D_needPair 1 = .ok (.aload_n 0, 1) := by decide +kernel
theorem d_D_needPair_2 : decode c_D_needPair 2 = .ok (.getfield 14, 3) := by decide +kernel
theorem d_D_needPair_5 : decode c_D_needPair 5 = .ok (.getfield 99, 3) := by decide +kernel
theorem d_D_needPair_8 : decode c_D_needPair 8 = .ok (.invokestatic 86, 3) := by decide +kernel
theorem d_D_needPair_11 : decode c_D_needPair 11 = .ok (.return_, 1) := by decide +kernel
theorem d_D_needNumber_0 : decode c_D_needNumber 0 = .ok (.iload_n 0, 1) := by decide +kernel
theorem d_D_needNumber_1 : decode c_D_needNumber 1 = .ok (.iload_n 1, 1) := by decide +kernel
theorem d_D_needNumber_2 : decode c_D_needNumber 2 = .ok (.if_icmp .lt 8, 3) := by decide +kernel
theorem d_D_needNumber_5 : decode c_D_needNumber 5 = .ok (.iload_n 0, 1) := by decide +kernel
theorem d_D_needNumber_6 : decode c_D_needNumber 6 = .ok (.iload_n 2, 1) := by decide +kernel
theorem d_D_needNumber_7 : decode c_D_needNumber 7 = .ok (.if_icmp .le 13, 3) := by decide +kernel
theorem d_D_needNumber_10 : decode c_D_needNumber 10 = .ok (.new 182, 3) := by decide +kernel
theorem d_D_needNumber_13 : decode c_D_needNumber 13 = .ok (.dup, 1) := by decide +kernel
theorem d_D_needNumber_14 : decode c_D_needNumber 14 = .ok (.ldc 184, 2) := by decide +kernel
theorem d_D_needNumber_16 : decode c_D_needNumber 16 = .ok (.invokespecial 186, 3) := by decide +kernel
theorem d_D_needNumber_19 : decode c_D_needNumber 19 = .ok (.athrow, 1) := by decide +kernel
theorem d_D_needNumber_20 : decode c_D_needNumber 20 = .ok (.return_, 1) := by decide +kernel
theorem d_D_needBounds_0 : decode c_D_needBounds 0 = .ok (.iload_n 0, 1) := by decide +kernel
theorem d_D_needBounds_1 : decode c_D_needBounds 1 = .ok (.iconst 1, 1) := by decide +kernel
theorem d_D_needBounds_2 : decode c_D_needBounds 2 = .ok (.bipush 16, 2) := by decide +kernel
theorem d_D_needBounds_4 : decode c_D_needBounds 4 = .ok (.invokestatic 67, 3) := by decide +kernel
theorem d_D_needBounds_7 : decode c_D_needBounds 7 = .ok (.iload_n 1, 1) := by decide +kernel
theorem d_D_needBounds_8 : decode c_D_needBounds 8 = .ok (.iconst 1, 1) := by decide +kernel
theorem d_D_needBounds_9 : decode c_D_needBounds 9 = .ok (.bipush 16, 2) := by decide +kernel
theorem d_D_needBounds_11 : decode c_D_needBounds 11 = .ok (.invokestatic 67, 3) := by decide +kernel
theorem d_D_needBounds_14 : decode c_D_needBounds 14 = .ok (.return_, 1) := by decide +kernel
theorem d_D_toldPart_0 : decode c_D_toldPart 0 = .ok (.lload_n 2, 1) := by decide +kernel
theorem d_D_toldPart_1 : decode c_D_toldPart 1 = .ok (.lconst 1, 1) := by decide +kernel
theorem d_D_toldPart_2 : decode c_D_toldPart 2 = .ok (.lcmp, 1) := by decide +kernel
theorem d_D_toldPart_3 : decode c_D_toldPart 3 = .ok (.ifCond .ge 14, 3) := by decide +kernel
theorem d_D_toldPart_6 : decode c_D_toldPart 6 = .ok (.iload 4, 2) := by decide +kernel
theorem d_D_toldPart_8 : decode c_D_toldPart 8 = .ok (.ifCond .ne 7, 3) := by decide +kernel
theorem d_D_toldPart_11 : decode c_D_toldPart 11 = .ok (.lconst 0, 1) := by decide +kernel
theorem d_D_toldPart_12 : decode c_D_toldPart 12 = .ok (.goto 4, 3) := by decide +kernel
theorem d_D_toldPart_15 : decode c_D_toldPart 15 = .ok (.lconst 1, 1) := by decide +kernel
theorem d_D_toldPart_16 : decode c_D_toldPart 16 = .ok (.lreturn, 1) := by decide +kernel
theorem d_D_toldPart_17 : decode c_D_toldPart 17 = .ok (.lload_n 0, 1) := by decide +kernel
theorem d_D_toldPart_18 : decode c_D_toldPart 18 = .ok (.invokestatic 187, 3) := by decide +kernel
theorem d_D_toldPart_21 : decode c_D_toldPart 21 = .ok (.lload_n 2, 1) := by decide +kernel
theorem d_D_toldPart_22 : decode c_D_toldPart 22 = .ok (.invokestatic 190, 3) := by decide +kernel
theorem d_D_toldPart_25 : decode c_D_toldPart 25 = .ok (.lstore 5, 2) := by decide +kernel
theorem d_D_toldPart_27 : decode c_D_toldPart 27 = .ok (.lload 5, 2) := by decide +kernel
theorem d_D_toldPart_29 : decode c_D_toldPart 29 = .ok (.lconst 1, 1) := by decide +kernel
theorem d_D_toldPart_30 : decode c_D_toldPart 30 = .ok (.lcmp, 1) := by decide +kernel
theorem d_D_toldPart_31 : decode c_D_toldPart 31 = .ok (.ifCond .ge 14, 3) := by decide +kernel
theorem d_D_toldPart_34 : decode c_D_toldPart 34 = .ok (.iload 4, 2) := by decide +kernel
theorem d_D_toldPart_36 : decode c_D_toldPart 36 = .ok (.ifCond .ne 7, 3) := by decide +kernel
theorem d_D_toldPart_39 : decode c_D_toldPart 39 = .ok (.lload_n 0, 1) := by decide +kernel
theorem d_D_toldPart_40 : decode c_D_toldPart 40 = .ok (.goto 4, 3) := by decide +kernel
theorem d_D_toldPart_43 : decode c_D_toldPart 43 = .ok (.lload_n 2, 1) := by decide +kernel
theorem d_D_toldPart_44 : decode c_D_toldPart 44 = .ok (.lreturn, 1) := by decide +kernel
theorem d_D_toldPart_45 : decode c_D_toldPart 45 = .ok (.iload 4, 2) := by decide +kernel
theorem d_D_toldPart_47 : decode c_D_toldPart 47 = .ok (.ifCond .ne 10, 3) := by decide +kernel
theorem d_D_toldPart_50 : decode c_D_toldPart 50 = .ok (.lload_n 0, 1) := by decide +kernel
theorem d_D_toldPart_51 : decode c_D_toldPart 51 = .ok (.lload 5, 2) := by decide +kernel
theorem d_D_toldPart_53 : decode c_D_toldPart 53 = .ok (.ldiv, 1) := by decide +kernel
theorem d_D_toldPart_54 : decode c_D_toldPart 54 = .ok (.goto 7, 3) := by decide +kernel
theorem d_D_toldPart_57 : decode c_D_toldPart 57 = .ok (.lload_n 2, 1) := by decide +kernel
theorem d_D_toldPart_58 : decode c_D_toldPart 58 = .ok (.lload 5, 2) := by decide +kernel
theorem d_D_toldPart_60 : decode c_D_toldPart 60 = .ok (.ldiv, 1) := by decide +kernel
theorem d_D_toldPart_61 : decode c_D_toldPart 61 = .ok (.lreturn, 1) := by decide +kernel
theorem d_D_commonDivisor_0 : decode c_D_commonDivisor 0 = .ok (.lload_n 2, 1) := by decide +kernel
theorem d_D_commonDivisor_1 : decode c_D_commonDivisor 1 = .ok (.lstore 4, 2) := by decide +kernel
theorem d_D_commonDivisor_3 : decode c_D_commonDivisor 3 = .ok (.lload_n 0, 1) := by decide +kernel
theorem d_D_commonDivisor_4 : decode c_D_commonDivisor 4 = .ok (.lstore 6, 2) := by decide +kernel
theorem d_D_commonDivisor_6 : decode c_D_commonDivisor 6 = .ok (.iconst 0, 1) := by decide +kernel
theorem d_D_commonDivisor_7 : decode c_D_commonDivisor 7 = .ok (.istore 8, 2) := by decide +kernel
theorem d_D_commonDivisor_9 : decode c_D_commonDivisor 9 = .ok (.iload 8, 2) := by decide +kernel
theorem d_D_commonDivisor_11 : decode c_D_commonDivisor 11 = .ok (.bipush 100, 2) := by decide +kernel
theorem d_D_commonDivisor_13 : decode c_D_commonDivisor 13 = .ok (.if_icmp .ge 31, 3) := by decide +kernel
theorem d_D_commonDivisor_16 : decode c_D_commonDivisor 16 = .ok (.lload 6, 2) := by decide +kernel
theorem d_D_commonDivisor_18 : decode c_D_commonDivisor 18 = .ok (.lconst 0, 1) := by decide +kernel
theorem d_D_commonDivisor_19 : decode c_D_commonDivisor 19 = .ok (.lcmp, 1) := by decide +kernel
theorem d_D_commonDivisor_20 : decode c_D_commonDivisor 20 = .ok (.ifCond .eq 24, 3) := by decide +kernel
theorem d_D_commonDivisor_23 : decode c_D_commonDivisor 23 = .ok (.lload 4, 2) := by decide +kernel
theorem d_D_commonDivisor_25 : decode c_D_commonDivisor 25 = .ok (.lload 6, 2) := by decide +kernel
theorem d_D_commonDivisor_27 : decode c_D_commonDivisor 27 = .ok (.lrem, 1) := by decide +kernel
theorem d_D_commonDivisor_28 : decode c_D_commonDivisor 28 = .ok (.lstore 9, 2) := by decide +kernel
theorem d_D_commonDivisor_30 : decode c_D_commonDivisor 30 = .ok (.lload 6, 2) := by decide +kernel
theorem d_D_commonDivisor_32 : decode c_D_commonDivisor 32 = .ok (.lstore 4, 2) := by decide +kernel
theorem d_D_commonDivisor_34 : decode c_D_commonDivisor 34 = .ok (.lload 9, 2) := by decide +kernel
theorem d_D_commonDivisor_36 : decode c_D_commonDivisor 36 = .ok (.lstore 6, 2) := by decide +kernel
theorem d_D_commonDivisor_38 : decode c_D_commonDivisor 38 = .ok (.iinc 8 1, 3) := by decide +kernel
theorem d_D_commonDivisor_41 : decode c_D_commonDivisor 41 = .ok (.goto (-32), 3) := by decide +kernel
theorem d_D_commonDivisor_44 : decode c_D_commonDivisor 44 = .ok (.lload 4, 2) := by decide +kernel
theorem d_D_commonDivisor_46 : decode c_D_commonDivisor 46 = .ok (.lreturn, 1) := by decide +kernel
theorem d_J_init_0 : decode c_J_init 0 = .ok (.aload_n 0, 1) := by decide +kernel
theorem d_J_init_1 : decode c_J_init 1 = .ok (.invokespecial 3, 3) := by decide +kernel
theorem d_J_init_4 : decode c_J_init 4 = .ok (.aload_n 0, 1) := by decide +kernel
theorem d_J_init_5 : decode c_J_init 5 = .ok (.iload_n 1, 1) := by decide +kernel
theorem d_J_init_6 : decode c_J_init 6 = .ok (.i2l, 1) := by decide +kernel
theorem d_J_init_7 : decode c_J_init 7 = .ok (.putfield 9, 3) := by decide +kernel
theorem d_J_init_10 : decode c_J_init 10 = .ok (.aload_n 0, 1) := by decide +kernel
theorem d_J_init_11 : decode c_J_init 11 = .ok (.iconst 0, 1) := by decide +kernel
theorem d_J_init_12 : decode c_J_init 12 = .ok (.putfield 15, 3) := by decide +kernel
theorem d_J_init_15 : decode c_J_init 15 = .ok (.aload_n 0, 1) := by decide +kernel
theorem d_J_init_16 : decode c_J_init 16 = .ok (.iconst 0, 1) := by decide +kernel
theorem d_J_init_17 : decode c_J_init 17 = .ok (.putfield 19, 3) := by decide +kernel
theorem d_J_init_20 : decode c_J_init 20 = .ok (.aload_n 0, 1) := by decide +kernel
theorem d_J_init_21 : decode c_J_init 21 = .ok (.iconst 4, 1) := by decide +kernel
theorem d_J_init_22 : decode c_J_init 22 = .ok (.newarray .int, 2) := by decide +kernel
theorem d_J_init_24 : decode c_J_init 24 = .ok (.putfield 22, 3) := by decide +kernel
theorem d_J_init_27 : decode c_J_init 27 = .ok (.aload_n 0, 1) := by decide +kernel
theorem d_J_init_28 : decode c_J_init 28 = .ok (.iconst 4, 1) := by decide +kernel
theorem d_J_init_29 : decode c_J_init 29 = .ok (.newarray .boolean, 2) := by decide +kernel
theorem d_J_init_31 : decode c_J_init 31 = .ok (.putfield 26, 3) := by decide +kernel
theorem d_J_init_34 : decode c_J_init 34 = .ok (.aload_n 0, 1) := by decide +kernel
theorem d_J_init_35 : decode c_J_init 35 = .ok (.bipush 32, 2) := by decide +kernel
theorem d_J_init_37 : decode c_J_init 37 = .ok (.newarray .boolean, 2) := by decide +kernel
theorem d_J_init_39 : decode c_J_init 39 = .ok (.putfield 30, 3) := by decide +kernel
theorem d_J_init_42 : decode c_J_init 42 = .ok (.aload_n 0, 1) := by decide +kernel
theorem d_J_init_43 : decode c_J_init 43 = .ok (.bipush 96, 2) := by decide +kernel
theorem d_J_init_45 : decode c_J_init 45 = .ok (.newarray .int, 2) := by decide +kernel
theorem d_J_init_47 : decode c_J_init 47 = .ok (.putfield 33, 3) := by decide +kernel
theorem d_J_init_50 : decode c_J_init 50 = .ok (.aload_n 0, 1) := by decide +kernel
theorem d_J_init_51 : decode c_J_init 51 = .ok (.bipush 16, 2) := by decide +kernel
theorem d_J_init_53 : decode c_J_init 53 = .ok (.newarray .int, 2) := by decide +kernel
theorem d_J_init_55 : decode c_J_init 55 = .ok (.putfield 36, 3) := by decide +kernel
theorem d_J_init_58 : decode c_J_init 58 = .ok (.aload_n 0, 1) := by decide +kernel
theorem d_J_init_59 : decode c_J_init 59 = .ok (.bipush 16, 2) := by decide +kernel
theorem d_J_init_61 : decode c_J_init 61 = .ok (.newarray .int, 2) := by decide +kernel
theorem d_J_init_63 : decode c_J_init 63 = .ok (.putfield 39, 3) := by decide +kernel
theorem d_J_init_66 : decode c_J_init 66 = .ok (.aload_n 0, 1) := by decide +kernel
theorem d_J_init_67 : decode c_J_init 67 = .ok (.bipush 16, 2) := by decide +kernel
theorem d_J_init_69 : decode c_J_init 69 = .ok (.newarray .int, 2) := by decide +kernel
theorem d_J_init_71 : decode c_J_init 71 = .ok (.putfield 42, 3) := by decide +kernel
theorem d_J_init_74 : decode c_J_init 74 = .ok (.iconst 0, 1) := by decide +kernel
theorem d_J_init_75 : decode c_J_init 75 = .ok (.istore_n 2, 1) := by decide +kernel
theorem d_J_init_76 : decode c_J_init 76 = .ok (.iload_n 2, 1) := by decide +kernel
theorem d_J_init_77 : decode c_J_init 77 = .ok (.iconst 4, 1) := by decide +kernel
theorem d_J_init_78 : decode c_J_init 78 = .ok (.if_icmp .ge 16, 3) := by decide +kernel
theorem d_J_init_81 : decode c_J_init 81 = .ok (.aload_n 0, 1) := by decide +kernel
theorem d_J_init_82 : decode c_J_init 82 = .ok (.getfield 22, 3) := by decide +kernel
theorem d_J_init_85 : decode c_J_init 85 = .ok (.iload_n 2, 1) := by decide +kernel
theorem d_J_init_86 : decode c_J_init 86 = .ok (.iconst (-1), 1) := by decide +kernel
theorem d_J_init_87 : decode c_J_init 87 = .ok (.iastore, 1) := by decide +kernel
theorem d_J_init_88 : decode c_J_init 88 = .ok (.iinc 2 1, 3) := by decide +kernel
theorem d_J_init_91 : decode c_J_init 91 = .ok (.goto (-15), 3) := by decide +kernel
theorem d_J_init_94 : decode c_J_init 94 = .ok (.return_, 1) := by decide +kernel
theorem d_J_addHaul_0 : decode c_J_addHaul 0 = .ok (.aload_n 0, 1) := by decide +kernel
theorem d_J_addHaul_1 : decode c_J_addHaul 1 = .ok (.getfield 15, 3) := by decide +kernel
theorem d_J_addHaul_4 : decode c_J_addHaul 4 = .ok (.istore_n 2, 1) := by decide +kernel
theorem d_J_addHaul_5 : decode c_J_addHaul 5 = .ok (.aload_n 0, 1) := by decide +kernel
theorem d_J_addHaul_6 : decode c_J_addHaul 6 = .ok (.getfield 22, 3) := by decide +kernel
theorem d_J_addHaul_9 : decode c_J_addHaul 9 = .ok (.iload_n 1, 1) := by decide +kernel
theorem d_J_addHaul_10 : decode c_J_addHaul 10 = .ok (.iaload, 1) := by decide +kernel
theorem d_J_addHaul_11 : decode c_J_addHaul 11 = .ok (.istore_n 3, 1) := by decide +kernel
theorem d_J_addHaul_12 : decode c_J_addHaul 12 = .ok (.aload_n 0, 1) := by decide +kernel
theorem d_J_addHaul_13 : decode c_J_addHaul 13 = .ok (.dup, 1) := by decide +kernel
theorem d_J_addHaul_14 : decode c_J_addHaul 14 = .ok (.getfield 15, 3) := by decide +kernel
theorem d_J_addHaul_17 : decode c_J_addHaul 17 = .ok (.iconst 1, 1) := by decide +kernel
theorem d_J_addHaul_18 : decode c_J_addHaul 18 = .ok (.iadd, 1) := by decide +kernel
theorem d_J_addHaul_19 : decode c_J_addHaul 19 = .ok (.putfield 15, 3) := by decide +kernel
theorem d_J_addHaul_22 : decode c_J_addHaul 22 = .ok (.iload_n 3, 1) := by decide +kernel
theorem d_J_addHaul_23 : decode c_J_addHaul 23 = .ok (.iconst (-1), 1) := by decide +kernel
theorem d_J_addHaul_24 : decode c_J_addHaul 24 = .ok (.if_icmp .ne 23, 3) := by decide +kernel
theorem d_J_addHaul_27 : decode c_J_addHaul 27 = .ok (.aload_n 0, 1) := by decide +kernel
theorem d_J_addHaul_28 : decode c_J_addHaul 28 = .ok (.getfield 30, 3) := by decide +kernel
