theorem d_M_reader_25 : decode c_M_reader 25 = .ok (.ifCond .lt 9, 3) := by decide +kernel
theorem d_M_reader_28 : decode c_M_reader 28 = .ok (.iload_n 3, 1) := by decide +kernel
theorem d_M_reader_29 : decode c_M_reader 29 = .ok (.ldc 97, 2) := by decide +kernel
theorem d_M_reader_31 : decode c_M_reader 31 = .ok (.if_icmp .le 7, 3) := by decide +kernel
theorem d_M_reader_34 : decode c_M_reader 34 = .ok (.iconst 2, 1) := by decide +kernel
theorem d_M_reader_35 : decode c_M_reader 35 = .ok (.goto 4, 3) := by decide +kernel
theorem d_M_reader_38 : decode c_M_reader 38 = .ok (.iconst 0, 1) := by decide +kernel
theorem d_M_reader_39 : decode c_M_reader 39 = .ok (.putfield 55, 3) := by decide +kernel
theorem d_M_reader_42 : decode c_M_reader 42 = .ok (.aload_n 0, 1) := by decide +kernel
theorem d_M_reader_43 : decode c_M_reader 43 = .ok (.getfield 55, 3) := by decide +kernel
theorem d_M_reader_46 : decode c_M_reader 46 = .ok (.ifCond .le 5, 3) := by decide +kernel
theorem d_M_reader_49 : decode c_M_reader 49 = .ok (.iconst 0, 1) := by decide +kernel
theorem d_M_reader_50 : decode c_M_reader 50 = .ok (.ireturn, 1) := by decide +kernel
theorem d_M_reader_51 : decode c_M_reader 51 = .ok (.aload_n 0, 1) := by decide +kernel
theorem d_M_reader_52 : decode c_M_reader 52 = .ok (.getfield 35, 3) := by decide +kernel
theorem d_M_reader_55 : decode c_M_reader 55 = .ok (.iconst 2, 1) := by decide +kernel
theorem d_M_reader_56 : decode c_M_reader 56 = .ok (.iload_n 1, 1) := by decide +kernel
theorem d_M_reader_57 : decode c_M_reader 57 = .ok (.imul, 1) := by decide +kernel
theorem d_M_reader_58 : decode c_M_reader 58 = .ok (.iload_n 2, 1) := by decide +kernel
theorem d_M_reader_59 : decode c_M_reader 59 = .ok (.iadd, 1) := by decide +kernel
theorem d_M_reader_60 : decode c_M_reader 60 = .ok (.iload_n 3, 1) := by decide +kernel
theorem d_M_reader_61 : decode c_M_reader 61 = .ok (.iastore, 1) := by decide +kernel
theorem d_M_reader_62 : decode c_M_reader 62 = .ok (.aload_n 0, 1) := by decide +kernel
theorem d_M_reader_63 : decode c_M_reader 63 = .ok (.iload_n 1, 1) := by decide +kernel
theorem d_M_reader_64 : decode c_M_reader 64 = .ok (.invokevirtual 112, 3) := by decide +kernel
theorem d_M_reader_67 : decode c_M_reader 67 = .ok (.ireturn, 1) := by decide +kernel
theorem d_M_unlike_0 : decode c_M_unlike 0 = .ok (.aload_n 0, 1) := by decide +kernel
theorem d_M_unlike_1 : decode c_M_unlike 1 = .ok (.iload_n 1, 1) := by decide +kernel
theorem d_M_unlike_2 : decode c_M_unlike 2 = .ok (.ifCond .lt 11, 3) := by decide +kernel
theorem d_M_unlike_5 : decode c_M_unlike 5 = .ok (.iload_n 1, 1) := by decide +kernel
theorem d_M_unlike_6 : decode c_M_unlike 6 = .ok (.aload_n 0, 1) := by decide +kernel
theorem d_M_unlike_7 : decode c_M_unlike 7 = .ok (.getfield 63, 3) := by decide +kernel
theorem d_M_unlike_10 : decode c_M_unlike 10 = .ok (.if_icmp .le 7, 3) := by decide +kernel
theorem d_M_unlike_13 : decode c_M_unlike 13 = .ok (.iconst 1, 1) := by decide +kernel
theorem d_M_unlike_14 : decode c_M_unlike 14 = .ok (.goto 4, 3) := by decide +kernel
theorem d_M_unlike_17 : decode c_M_unlike 17 = .ok (.iconst 0, 1) := by decide +kernel
theorem d_M_unlike_18 : decode c_M_unlike 18 = .ok (.putfield 55, 3) := by decide +kernel
theorem d_M_unlike_21 : decode c_M_unlike 21 = .ok (.iload_n 1, 1) := by decide +kernel
theorem d_M_unlike_22 : decode c_M_unlike 22 = .ok (.istore_n 2, 1) := by decide +kernel
theorem d_M_unlike_23 : decode c_M_unlike 23 = .ok (.iload_n 2, 1) := by decide +kernel
theorem d_M_unlike_24 : decode c_M_unlike 24 = .ok (.aload_n 0, 1) := by decide +kernel
theorem d_M_unlike_25 : decode c_M_unlike 25 = .ok (.getfield 63, 3) := by decide +kernel
theorem d_M_unlike_28 : decode c_M_unlike 28 = .ok (.if_icmp .ge 26, 3) := by decide +kernel
theorem d_M_unlike_31 : decode c_M_unlike 31 = .ok (.aload_n 0, 1) := by decide +kernel
theorem d_M_unlike_32 : decode c_M_unlike 32 = .ok (.getfield 55, 3) := by decide +kernel
theorem d_M_unlike_35 : decode c_M_unlike 35 = .ok (.ifCond .ne 19, 3) := by decide +kernel
theorem d_M_unlike_38 : decode c_M_unlike 38 = .ok (.aload_n 0, 1) := by decide +kernel
theorem d_M_unlike_39 : decode c_M_unlike 39 = .ok (.iload_n 2, 1) := by decide +kernel
theorem d_M_unlike_40 : decode c_M_unlike 40 = .ok (.invokevirtual 112, 3) := by decide +kernel
theorem d_M_unlike_43 : decode c_M_unlike 43 = .ok (.ifCond .eq 5, 3) := by decide +kernel
theorem d_M_unlike_46 : decode c_M_unlike 46 = .ok (.iload_n 2, 1) := by decide +kernel
theorem d_M_unlike_47 : decode c_M_unlike 47 = .ok (.ireturn, 1) := by decide +kernel
theorem d_M_unlike_48 : decode c_M_unlike 48 = .ok (.iinc 2 1, 3) := by decide +kernel
theorem d_M_unlike_51 : decode c_M_unlike 51 = .ok (.goto (-28), 3) := by decide +kernel
theorem d_M_unlike_54 : decode c_M_unlike 54 = .ok (.aload_n 0, 1) := by decide +kernel
theorem d_M_unlike_55 : decode c_M_unlike 55 = .ok (.getfield 55, 3) := by decide +kernel
theorem d_M_unlike_58 : decode c_M_unlike 58 = .ok (.ifCond .le 7, 3) := by decide +kernel
theorem d_M_unlike_61 : decode c_M_unlike 61 = .ok (.iconst 0, 1) := by decide +kernel
theorem d_M_unlike_62 : decode c_M_unlike 62 = .ok (.goto 4, 3) := by decide +kernel
theorem d_M_unlike_65 : decode c_M_unlike 65 = .ok (.iconst (-1), 1) := by decide +kernel
theorem d_M_unlike_66 : decode c_M_unlike 66 = .ok (.ireturn, 1) := by decide +kernel
theorem d_M_price_0 : decode c_M_price 0 = .ok (.aload_n 0, 1) := by decide +kernel
theorem d_M_price_1 : decode c_M_price 1 = .ok (.iload_n 1, 1) := by decide +kernel
theorem d_M_price_2 : decode c_M_price 2 = .ok (.iconst 3, 1) := by decide +kernel
theorem d_M_price_3 : decode c_M_price 3 = .ok (.invokestatic 59, 3) := by decide +kernel
theorem d_M_price_6 : decode c_M_price 6 = .ok (.ifCond .ne 7, 3) := by decide +kernel
theorem d_M_price_9 : decode c_M_price 9 = .ok (.iconst 1, 1) := by decide +kernel
theorem d_M_price_10 : decode c_M_price 10 = .ok (.goto 18, 3) := by decide +kernel
theorem d_M_price_13 : decode c_M_price 13 = .ok (.iload_n 2, 1) := by decide +kernel
theorem d_M_price_14 : decode c_M_price 14 = .ok (.ifCond .lt 9, 3) := by decide +kernel
theorem d_M_price_17 : decode c_M_price 17 = .ok (.iload_n 2, 1) := by decide +kernel
theorem d_M_price_18 : decode c_M_price 18 = .ok (.ldc 97, 2) := by decide +kernel
theorem d_M_price_20 : decode c_M_price 20 = .ok (.if_icmp .le 7, 3) := by decide +kernel
theorem d_M_price_23 : decode c_M_price 23 = .ok (.iconst 2, 1) := by decide +kernel
theorem d_M_price_24 : decode c_M_price 24 = .ok (.goto 4, 3) := by decide +kernel
theorem d_M_price_27 : decode c_M_price 27 = .ok (.iconst 0, 1) := by decide +kernel
theorem d_M_price_28 : decode c_M_price 28 = .ok (.putfield 55, 3) := by decide +kernel
theorem d_M_price_31 : decode c_M_price 31 = .ok (.aload_n 0, 1) := by decide +kernel
theorem d_M_price_32 : decode c_M_price 32 = .ok (.getfield 55, 3) := by decide +kernel
theorem d_M_price_35 : decode c_M_price 35 = .ok (.ifCond .ne 10, 3) := by decide +kernel
theorem d_M_price_38 : decode c_M_price 38 = .ok (.aload_n 0, 1) := by decide +kernel
theorem d_M_price_39 : decode c_M_price 39 = .ok (.getfield 38, 3) := by decide +kernel
theorem d_M_price_42 : decode c_M_price 42 = .ok (.iload_n 1, 1) := by decide +kernel
theorem d_M_price_43 : decode c_M_price 43 = .ok (.iload_n 2, 1) := by decide +kernel
theorem d_M_price_44 : decode c_M_price 44 = .ok (.iastore, 1) := by decide +kernel
theorem d_M_price_45 : decode c_M_price 45 = .ok (.return_, 1) := by decide +kernel
theorem d_M_lost_0 : decode c_M_lost 0 = .ok (.aload_n 0, 1) := by decide +kernel
theorem d_M_lost_1 : decode c_M_lost 1 = .ok (.iconst 0, 1) := by decide +kernel
theorem d_M_lost_2 : decode c_M_lost 2 = .ok (.putfield 55, 3) := by decide +kernel
theorem d_M_lost_5 : decode c_M_lost 5 = .ok (.lconst 0, 1) := by decide +kernel
theorem d_M_lost_6 : decode c_M_lost 6 = .ok (.lstore_n 1, 1) := by decide +kernel
theorem d_M_lost_7 : decode c_M_lost 7 = .ok (.iconst 0, 1) := by decide +kernel
theorem d_M_lost_8 : decode c_M_lost 8 = .ok (.istore_n 3, 1) := by decide +kernel
theorem d_M_lost_9 : decode c_M_lost 9 = .ok (.iload_n 3, 1) := by decide +kernel
theorem d_M_lost_10 : decode c_M_lost 10 = .ok (.iconst 3, 1) := by decide +kernel
theorem d_M_lost_11 : decode c_M_lost 11 = .ok (.if_icmp .ge 26, 3) := by decide +kernel
theorem d_M_lost_14 : decode c_M_lost 14 = .ok (.lload_n 1, 1) := by decide +kernel
theorem d_M_lost_15 : decode c_M_lost 15 = .ok (.aload_n 0, 1) := by decide +kernel
theorem d_M_lost_16 : decode c_M_lost 16 = .ok (.getfield 38, 3) := by decide +kernel
theorem d_M_lost_19 : decode c_M_lost 19 = .ok (.iload_n 3, 1) := by decide +kernel
theorem d_M_lost_20 : decode c_M_lost 20 = .ok (.iaload, 1) := by decide +kernel
theorem d_M_lost_21 : decode c_M_lost 21 = .ok (.i2l, 1) := by decide +kernel
theorem d_M_lost_22 : decode c_M_lost 22 = .ok (.aload_n 0, 1) := by decide +kernel
theorem d_M_lost_23 : decode c_M_lost 23 = .ok (.iload_n 3, 1) := by decide +kernel
theorem d_M_lost_24 : decode c_M_lost 24 = .ok (.invokevirtual 84, 3) := by decide +kernel
theorem d_M_lost_27 : decode c_M_lost 27 = .ok (.i2l, 1) := by decide +kernel
theorem d_M_lost_28 : decode c_M_lost 28 = .ok (.lmul, 1) := by decide +kernel
theorem d_M_lost_29 : decode c_M_lost 29 = .ok (.lsub, 1) := by decide +kernel
theorem d_M_lost_30 : decode c_M_lost 30 = .ok (.lstore_n 1, 1) := by decide +kernel
theorem d_M_lost_31 : decode c_M_lost 31 = .ok (.iinc 3 1, 3) := by decide +kernel
theorem d_M_lost_34 : decode c_M_lost 34 = .ok (.goto (-25), 3) := by decide +kernel
theorem d_M_lost_37 : decode c_M_lost 37 = .ok (.lload_n 1, 1) := by decide +kernel
theorem d_M_lost_38 : decode c_M_lost 38 = .ok (.lreturn, 1) := by decide +kernel
theorem d_L_cell_0 : decode c_L_cell 0 = .ok (.iload_n 1, 1) := by decide +kernel
theorem d_L_cell_1 : decode c_L_cell 1 = .ok (.aload_n 0, 1) := by decide +kernel
theorem d_L_cell_2 : decode c_L_cell 2 = .ok (.arraylength, 1) := by decide +kernel
theorem d_L_cell_3 : decode c_L_cell 3 = .ok (.if_icmp .ge 9, 3) := by decide +kernel
theorem d_L_cell_6 : decode c_L_cell 6 = .ok (.aload_n 0, 1) := by decide +kernel
theorem d_L_cell_7 : decode c_L_cell 7 = .ok (.iload_n 1, 1) := by decide +kernel
theorem d_L_cell_8 : decode c_L_cell 8 = .ok (.iaload, 1) := by decide +kernel
theorem d_L_cell_9 : decode c_L_cell 9 = .ok (.goto 4, 3) := by decide +kernel
theorem d_L_cell_12 : decode c_L_cell 12 = .ok (.iconst 0, 1) := by decide +kernel
theorem d_L_cell_13 : decode c_L_cell 13 = .ok (.ireturn, 1) := by decide +kernel
theorem d_L_haul_0 : decode c_L_haul 0 = .ok (.aload_n 2, 1) := by decide +kernel
theorem d_L_haul_1 : decode c_L_haul 1 = .ok (.iconst 0, 1) := by decide +kernel
theorem d_L_haul_2 : decode c_L_haul 2 = .ok (.aload_n 0, 1) := by decide +kernel
theorem d_L_haul_3 : decode c_L_haul 3 = .ok (.iload_n 1, 1) := by decide +kernel
theorem d_L_haul_4 : decode c_L_haul 4 = .ok (.invokevirtual 7, 3) := by decide +kernel
theorem d_L_haul_7 : decode c_L_haul 7 = .ok (.i2l, 1) := by decide +kernel
theorem d_L_haul_8 : decode c_L_haul 8 = .ok (.lastore, 1) := by decide +kernel
theorem d_L_haul_9 : decode c_L_haul 9 = .ok (.goto 9, 3) := by decide +kernel
theorem d_L_haul_12 : decode c_L_haul 12 = .ok (.astore_n 3, 1) := by decide +kernel
theorem d_L_haul_13 : decode c_L_haul 13 = .ok (.iconst 1, 1) := by decide +kernel
theorem d_L_haul_14 : decode c_L_haul 14 = .ok (.ireturn, 1) := by decide +kernel
theorem d_L_haul_15 : decode c_L_haul 15 = .ok (.astore_n 3, 1) := by decide +kernel
theorem d_L_haul_16 : decode c_L_haul 16 = .ok (.iconst 2, 1) := by decide +kernel
theorem d_L_haul_17 : decode c_L_haul 17 = .ok (.ireturn, 1) := by decide +kernel
theorem d_L_haul_18 : decode c_L_haul 18 = .ok (.iconst 0, 1) := by decide +kernel
theorem d_L_haul_19 : decode c_L_haul 19 = .ok (.ireturn, 1) := by decide +kernel
theorem d_L_caught_0 : decode c_L_caught 0 = .ok (.aload 4, 2) := by decide +kernel
theorem d_L_caught_2 : decode c_L_caught 2 = .ok (.iconst 0, 1) := by decide +kernel
theorem d_L_caught_3 : decode c_L_caught 3 = .ok (.aload_n 0, 1) := by decide +kernel
theorem d_L_caught_4 : decode c_L_caught 4 = .ok (.iload_n 1, 1) := by decide +kernel
theorem d_L_caught_5 : decode c_L_caught 5 = .ok (.iload_n 2, 1) := by decide +kernel
theorem d_L_caught_6 : decode c_L_caught 6 = .ok (.iload_n 3, 1) := by decide +kernel
theorem d_L_caught_7 : decode c_L_caught 7 = .ok (.invokevirtual 17, 3) := by decide +kernel
theorem d_L_caught_10 : decode c_L_caught 10 = .ok (.ifCond .eq 7, 3) := by decide +kernel
theorem d_L_caught_13 : decode c_L_caught 13 = .ok (.lconst 1, 1) := by decide +kernel
theorem d_L_caught_14 : decode c_L_caught 14 = .ok (.goto 4, 3) := by decide +kernel
theorem d_L_caught_17 : decode c_L_caught 17 = .ok (.lconst 0, 1) := by decide +kernel
theorem d_L_caught_18 : decode c_L_caught 18 = .ok (.lastore, 1) := by decide +kernel
theorem d_L_caught_19 : decode c_L_caught 19 = .ok (.goto 11, 3) := by decide +kernel
theorem d_L_caught_22 : decode c_L_caught 22 = .ok (.astore 5, 2) := by decide +kernel
theorem d_L_caught_24 : decode c_L_caught 24 = .ok (.iconst 1, 1) := by decide +kernel
theorem d_L_caught_25 : decode c_L_caught 25 = .ok (.ireturn, 1) := by decide +kernel
theorem d_L_caught_26 : decode c_L_caught 26 = .ok (.astore 5, 2) := by decide +kernel
theorem d_L_caught_28 : decode c_L_caught 28 = .ok (.iconst 2, 1) := by decide +kernel
theorem d_L_caught_29 : decode c_L_caught 29 = .ok (.ireturn, 1) := by decide +kernel
theorem d_L_caught_30 : decode c_L_caught 30 = .ok (.iconst 0, 1) := by decide +kernel
theorem d_L_caught_31 : decode c_L_caught 31 = .ok (.ireturn, 1) := by decide +kernel
theorem d_L_out_0 : decode c_L_out 0 = .ok (.aload_n 3, 1) := by decide +kernel
theorem d_L_out_1 : decode c_L_out 1 = .ok (.iconst 0, 1) := by decide +kernel
theorem d_L_out_2 : decode c_L_out 2 = .ok (.aload_n 0, 1) := by decide +kernel
theorem d_L_out_3 : decode c_L_out 3 = .ok (.iload_n 1, 1) := by decide +kernel
theorem d_L_out_4 : decode c_L_out 4 = .ok (.iload_n 2, 1) := by decide +kernel
theorem d_L_out_5 : decode c_L_out 5 = .ok (.invokevirtual 23, 3) := by decide +kernel
theorem d_L_out_8 : decode c_L_out 8 = .ok (.ifCond .eq 7, 3) := by decide +kernel
theorem d_L_out_11 : decode c_L_out 11 = .ok (.lconst 1, 1) := by decide +kernel
theorem d_L_out_12 : decode c_L_out 12 = .ok (.goto 4, 3) := by decide +kernel
theorem d_L_out_15 : decode c_L_out 15 = .ok (.lconst 0, 1) := by decide +kernel
theorem d_L_out_16 : decode c_L_out 16 = .ok (.lastore, 1) := by decide +kernel
theorem d_L_out_17 : decode c_L_out 17 = .ok (.goto 7, 3) := by decide +kernel
theorem d_L_out_20 : decode c_L_out 20 = .ok (.astore 4, 2) := by decide +kernel
theorem d_L_out_22 : decode c_L_out 22 = .ok (.iconst 1, 1) := by decide +kernel
theorem d_L_out_23 : decode c_L_out 23 = .ok (.ireturn, 1) := by decide +kernel
theorem d_L_out_24 : decode c_L_out 24 = .ok (.iconst 0, 1) := by decide +kernel
theorem d_L_out_25 : decode c_L_out 25 = .ok (.ireturn, 1) := by decide +kernel
theorem d_L_arm_0 : decode c_L_arm 0 = .ok (.aload_n 2, 1) := by decide +kernel
theorem d_L_arm_1 : decode c_L_arm 1 = .ok (.iconst 0, 1) := by decide +kernel
theorem d_L_arm_2 : decode c_L_arm 2 = .ok (.aload_n 0, 1) := by decide +kernel
theorem d_L_arm_3 : decode c_L_arm 3 = .ok (.iload_n 1, 1) := by decide +kernel
theorem d_L_arm_4 : decode c_L_arm 4 = .ok (.invokevirtual 27, 3) := by decide +kernel
theorem d_L_arm_7 : decode c_L_arm 7 = .ok (.i2l, 1) := by decide +kernel
theorem d_L_arm_8 : decode c_L_arm 8 = .ok (.lastore, 1) := by decide +kernel
theorem d_L_arm_9 : decode c_L_arm 9 = .ok (.goto 6, 3) := by decide +kernel
theorem d_L_arm_12 : decode c_L_arm 12 = .ok (.astore_n 3, 1) := by decide +kernel
theorem d_L_arm_13 : decode c_L_arm 13 = .ok (.iconst 1, 1) := by decide +kernel
theorem d_L_arm_14 : decode c_L_arm 14 = .ok (.ireturn, 1) := by decide +kernel
theorem d_L_arm_15 : decode c_L_arm 15 = .ok (.iconst 0, 1) := by decide +kernel
theorem d_L_arm_16 : decode c_L_arm 16 = .ok (.ireturn, 1) := by decide +kernel
theorem d_L_pair_0 : decode c_L_pair 0 = .ok (.aload_n 3, 1) := by decide +kernel
theorem d_L_pair_1 : decode c_L_pair 1 = .ok (.iconst 0, 1) := by decide +kernel
theorem d_L_pair_2 : decode c_L_pair 2 = .ok (.aload_n 0, 1) := by decide +kernel
theorem d_L_pair_3 : decode c_L_pair 3 = .ok (.iload_n 1, 1) := by decide +kernel
theorem d_L_pair_4 : decode c_L_pair 4 = .ok (.iload_n 2, 1) := by decide +kernel
theorem d_L_pair_5 : decode c_L_pair 5 = .ok (.invokevirtual 30, 3) := by decide +kernel
theorem d_L_pair_8 : decode c_L_pair 8 = .ok (.i2l, 1) := by decide +kernel
theorem d_L_pair_9 : decode c_L_pair 9 = .ok (.lastore, 1) := by decide +kernel
theorem d_L_pair_10 : decode c_L_pair 10 = .ok (.goto 7, 3) := by decide +kernel
theorem d_L_pair_13 : decode c_L_pair 13 = .ok (.astore 4, 2) := by decide +kernel
theorem d_L_pair_15 : decode c_L_pair 15 = .ok (.iconst 1, 1) := by decide +kernel
theorem d_L_pair_16 : decode c_L_pair 16 = .ok (.ireturn, 1) := by decide +kernel
theorem d_L_pair_17 : decode c_L_pair 17 = .ok (.iconst 0, 1) := by decide +kernel
theorem d_L_pair_18 : decode c_L_pair 18 = .ok (.ireturn, 1) := by decide +kernel
theorem d_L_difference_0 : decode c_L_difference 0 = .ok (.aload_n 3, 1) := by decide +kernel
theorem d_L_difference_1 : decode c_L_difference 1 = .ok (.iconst 0, 1) := by decide +kernel
theorem d_L_difference_2 : decode c_L_difference 2 = .ok (.aload_n 0, 1) := by decide +kernel
theorem d_L_difference_3 : decode c_L_difference 3 = .ok (.iload_n 1, 1) := by decide +kernel
theorem d_L_difference_4 : decode c_L_difference 4 = .ok (.iload_n 2, 1) := by decide +kernel
theorem d_L_difference_5 : decode c_L_difference 5 = .ok (.invokevirtual 34, 3) := by decide +kernel
theorem d_L_difference_8 : decode c_L_difference 8 = .ok (.i2l, 1) := by decide +kernel
theorem d_L_difference_9 : decode c_L_difference 9 = .ok (.lastore, 1) := by decide +kernel
theorem d_L_difference_10 : decode c_L_difference 10 = .ok (.goto 7, 3) := by decide +kernel
theorem d_L_difference_13 : decode c_L_difference 13 = .ok (.astore 4, 2) := by decide +kernel
theorem d_L_difference_15 : decode c_L_difference 15 = .ok (.iconst 1, 1) := by decide +kernel
theorem d_L_difference_16 : decode c_L_difference 16 = .ok (.ireturn, 1) := by decide +kernel
theorem d_L_difference_17 : decode c_L_difference 17 = .ok (.iconst 0, 1) := by decide +kernel
theorem d_L_difference_18 : decode c_L_difference 18 = .ok (.ireturn, 1) := by decide +kernel
theorem d_L_kept_0 : decode c_L_kept 0 = .ok (.aload_n 2, 1) := by decide +kernel
theorem d_L_kept_1 : decode c_L_kept 1 = .ok (.iconst 0, 1) := by decide +kernel
theorem d_L_kept_2 : decode c_L_kept 2 = .ok (.aload_n 0, 1) := by decide +kernel
theorem d_L_kept_3 : decode c_L_kept 3 = .ok (.iload_n 1, 1) := by decide +kernel
theorem d_L_kept_4 : decode c_L_kept 4 = .ok (.invokevirtual 37, 3) := by decide +kernel
theorem d_L_kept_7 : decode c_L_kept 7 = .ok (.i2l, 1) := by decide +kernel
theorem d_L_kept_8 : decode c_L_kept 8 = .ok (.lastore, 1) := by decide +kernel
theorem d_L_kept_9 : decode c_L_kept 9 = .ok (.goto 6, 3) := by decide +kernel
theorem d_L_kept_12 : decode c_L_kept 12 = .ok (.astore_n 3, 1) := by decide +kernel
theorem d_L_kept_13 : decode c_L_kept 13 = .ok (.iconst 1, 1) := by decide +kernel
theorem d_L_kept_14 : decode c_L_kept 14 = .ok (.ireturn, 1) := by decide +kernel
theorem d_L_kept_15 : decode c_L_kept 15 = .ok (.iconst 0, 1) := by decide +kernel
theorem d_L_kept_16 : decode c_L_kept 16 = .ok (.ireturn, 1) := by decide +kernel
theorem d_L_sum_0 : decode c_L_sum 0 = .ok (.aload_n 2, 1) := by decide +kernel
theorem d_L_sum_1 : decode c_L_sum 1 = .ok (.iconst 0, 1) := by decide +kernel
theorem d_L_sum_2 : decode c_L_sum 2 = .ok (.aload_n 0, 1) := by decide +kernel
theorem d_L_sum_3 : decode c_L_sum 3 = .ok (.iload_n 1, 1) := by decide +kernel
theorem d_L_sum_4 : decode c_L_sum 4 = .ok (.invokevirtual 40, 3) := by decide +kernel
theorem d_L_sum_7 : decode c_L_sum 7 = .ok (.i2l, 1) := by decide +kernel
theorem d_L_sum_8 : decode c_L_sum 8 = .ok (.lastore, 1) := by decide +kernel
theorem d_L_sum_9 : decode c_L_sum 9 = .ok (.goto 6, 3) := by decide +kernel
theorem d_L_sum_12 : decode c_L_sum 12 = .ok (.astore_n 3, 1) := by decide +kernel
theorem d_L_sum_13 : decode c_L_sum 13 = .ok (.iconst 1, 1) := by decide +kernel
theorem d_L_sum_14 : decode c_L_sum 14 = .ok (.ireturn, 1) := by decide +kernel
theorem d_L_sum_15 : decode c_L_sum 15 = .ok (.iconst 0, 1) := by decide +kernel
theorem d_L_sum_16 : decode c_L_sum 16 = .ok (.ireturn, 1) := by decide +kernel
theorem d_L_odds_0 : decode c_L_odds 0 = .ok (.aload_n 3, 1) := by decide +kernel
theorem d_L_odds_1 : decode c_L_odds 1 = .ok (.iconst 0, 1) := by decide +kernel
theorem d_L_odds_2 : decode c_L_odds 2 = .ok (.aload_n 0, 1) := by decide +kernel
theorem d_L_odds_3 : decode c_L_odds 3 = .ok (.iload_n 1, 1) := by decide +kernel
theorem d_L_odds_4 : decode c_L_odds 4 = .ok (.iload_n 2, 1) := by decide +kernel
theorem d_L_odds_5 : decode c_L_odds 5 = .ok (.invokevirtual 43, 3) := by decide +kernel
theorem d_L_odds_8 : decode c_L_odds 8 = .ok (.lastore, 1) := by decide +kernel
theorem d_L_odds_9 : decode c_L_odds 9 = .ok (.goto 7, 3) := by decide +kernel
theorem d_L_odds_12 : decode c_L_odds 12 = .ok (.astore 4, 2) := by decide +kernel
theorem d_L_odds_14 : decode c_L_odds 14 = .ok (.iconst 1, 1) := by decide +kernel
theorem d_L_odds_15 : decode c_L_odds 15 = .ok (.ireturn, 1) := by decide +kernel
theorem d_L_odds_16 : decode c_L_odds 16 = .ok (.iconst 0, 1) := by decide +kernel
theorem d_L_odds_17 : decode c_L_odds 17 = .ok (.ireturn, 1) := by decide +kernel
theorem d_L_rank_0 : decode c_L_rank 0 = .ok (.aload_n 3, 1) := by decide +kernel
theorem d_L_rank_1 : decode c_L_rank 1 = .ok (.iconst 0, 1) := by decide +kernel
theorem d_L_rank_2 : decode c_L_rank 2 = .ok (.aload_n 0, 1) := by decide +kernel
theorem d_L_rank_3 : decode c_L_rank 3 = .ok (.iload_n 1, 1) := by decide +kernel
theorem d_L_rank_4 : decode c_L_rank 4 = .ok (.iload_n 2, 1) := by decide +kernel
theorem d_L_rank_5 : decode c_L_rank 5 = .ok (.invokevirtual 47, 3) := by decide +kernel
theorem d_L_rank_8 : decode c_L_rank 8 = .ok (.i2l, 1) := by decide +kernel
theorem d_L_rank_9 : decode c_L_rank 9 = .ok (.lastore, 1) := by decide +kernel
theorem d_L_rank_10 : decode c_L_rank 10 = .ok (.goto 7, 3) := by decide +kernel
theorem d_L_rank_13 : decode c_L_rank 13 = .ok (.astore 4, 2) := by decide +kernel
theorem d_L_rank_15 : decode c_L_rank 15 = .ok (.iconst 1, 1) := by decide +kernel
theorem d_L_rank_16 : decode c_L_rank 16 = .ok (.ireturn, 1) := by decide +kernel
theorem d_L_rank_17 : decode c_L_rank 17 = .ok (.iconst 0, 1) := by decide +kernel
theorem d_L_rank_18 : decode c_L_rank 18 = .ok (.ireturn, 1) := by decide +kernel
theorem d_L_rankOdds_0 : decode c_L_rankOdds 0 = .ok (.aload_n 3, 1) := by decide +kernel
theorem d_L_rankOdds_1 : decode c_L_rankOdds 1 = .ok (.iconst 0, 1) := by decide +kernel
theorem d_L_rankOdds_2 : decode c_L_rankOdds 2 = .ok (.aload_n 0, 1) := by decide +kernel
theorem d_L_rankOdds_3 : decode c_L_rankOdds 3 = .ok (.iload_n 1, 1) := by decide +kernel
theorem d_L_rankOdds_4 : decode c_L_rankOdds 4 = .ok (.iload_n 2, 1) := by decide +kernel
theorem d_L_rankOdds_5 : decode c_L_rankOdds 5 = .ok (.invokevirtual 50, 3) := by decide +kernel
theorem d_L_rankOdds_8 : decode c_L_rankOdds 8 = .ok (.lastore, 1) := by decide +kernel
theorem d_L_rankOdds_9 : decode c_L_rankOdds 9 = .ok (.goto 7, 3) := by decide +kernel
theorem d_L_rankOdds_12 : decode c_L_rankOdds 12 = .ok (.astore 4, 2) := by decide +kernel
theorem d_L_rankOdds_14 : decode c_L_rankOdds 14 = .ok (.iconst 1, 1) := by decide +kernel
theorem d_L_rankOdds_15 : decode c_L_rankOdds 15 = .ok (.ireturn, 1) := by decide +kernel
theorem d_L_rankOdds_16 : decode c_L_rankOdds 16 = .ok (.iconst 0, 1) := by decide +kernel
theorem d_L_rankOdds_17 : decode c_L_rankOdds 17 = .ok (.ireturn, 1) := by decide +kernel
theorem d_L_stopped_0 : decode c_L_stopped 0 = .ok (.aload 4, 2) := by decide +kernel
theorem d_L_stopped_2 : decode c_L_stopped 2 = .ok (.iconst 0, 1) := by decide +kernel
theorem d_L_stopped_3 : decode c_L_stopped 3 = .ok (.aload_n 0, 1) := by decide +kernel
theorem d_L_stopped_4 : decode c_L_stopped 4 = .ok (.iload_n 1, 1) := by decide +kernel
theorem d_L_stopped_5 : decode c_L_stopped 5 = .ok (.iload_n 2, 1) := by decide +kernel
theorem d_L_stopped_6 : decode c_L_stopped 6 = .ok (.iload_n 3, 1) := by decide +kernel
theorem d_L_stopped_7 : decode c_L_stopped 7 = .ok (.invokevirtual 53, 3) := by decide +kernel
theorem d_L_stopped_10 : decode c_L_stopped 10 = .ok (.i2l, 1) := by decide +kernel
theorem d_L_stopped_11 : decode c_L_stopped 11 = .ok (.lastore, 1) := by decide +kernel
theorem d_L_stopped_12 : decode c_L_stopped 12 = .ok (.goto 11, 3) := by decide +kernel
theorem d_L_stopped_15 : decode c_L_stopped 15 = .ok (.astore 5, 2) := by decide +kernel
theorem d_L_stopped_17 : decode c_L_stopped 17 = .ok (.iconst 1, 1) := by decide +kernel
theorem d_L_stopped_18 : decode c_L_stopped 18 = .ok (.ireturn, 1) := by decide +kernel
theorem d_L_stopped_19 : decode c_L_stopped 19 = .ok (.astore 5, 2) := by decide +kernel
theorem d_L_stopped_21 : decode c_L_stopped 21 = .ok (.iconst 2, 1) := by decide +kernel
theorem d_L_stopped_22 : decode c_L_stopped 22 = .ok (.ireturn, 1) := by decide +kernel
theorem d_L_stopped_23 : decode c_L_stopped 23 = .ok (.iconst 0, 1) := by decide +kernel
theorem d_L_stopped_24 : decode c_L_stopped 24 = .ok (.ireturn, 1) := by decide +kernel
theorem d_L_crossing_0 : decode c_L_crossing 0 = .ok (.aload 5, 2) := by decide +kernel
theorem d_L_crossing_2 : decode c_L_crossing 2 = .ok (.iconst 0, 1) := by decide +kernel
theorem d_L_crossing_3 : decode c_L_crossing 3 = .ok (.aload_n 0, 1) := by decide +kernel
theorem d_L_crossing_4 : decode c_L_crossing 4 = .ok (.iload_n 1, 1) := by decide +kernel
theorem d_L_crossing_5 : decode c_L_crossing 5 = .ok (.iload_n 2, 1) := by decide +kernel
theorem d_L_crossing_6 : decode c_L_crossing 6 = .ok (.iload_n 3, 1) := by decide +kernel
theorem d_L_crossing_7 : decode c_L_crossing 7 = .ok (.iload 4, 2) := by decide +kernel
theorem d_L_crossing_9 : decode c_L_crossing 9 = .ok (.invokevirtual 57, 3) := by decide +kernel
theorem d_L_crossing_12 : decode c_L_crossing 12 = .ok (.lastore, 1) := by decide +kernel
theorem d_L_crossing_13 : decode c_L_crossing 13 = .ok (.goto 11, 3) := by decide +kernel
theorem d_L_crossing_16 : decode c_L_crossing 16 = .ok (.astore 6, 2) := by decide +kernel
theorem d_L_crossing_18 : decode c_L_crossing 18 = .ok (.iconst 1, 1) := by decide +kernel
theorem d_L_crossing_19 : decode c_L_crossing 19 = .ok (.ireturn, 1) := by decide +kernel
theorem d_L_crossing_20 : decode c_L_crossing 20 = .ok (.astore 6, 2) := by decide +kernel
theorem d_L_crossing_22 : decode c_L_crossing 22 = .ok (.iconst 2, 1) := by decide +kernel
theorem d_L_crossing_23 : decode c_L_crossing 23 = .ok (.ireturn, 1) := by decide +kernel
theorem d_L_crossing_24 : decode c_L_crossing 24 = .ok (.iconst 0, 1) := by decide +kernel
theorem d_L_crossing_25 : decode c_L_crossing 25 = .ok (.ireturn, 1) := by decide +kernel
theorem d_L_least_0 : decode c_L_least 0 = .ok (.aload 5, 2) := by decide +kernel
theorem d_L_least_2 : decode c_L_least 2 = .ok (.iconst 0, 1) := by decide +kernel
theorem d_L_least_3 : decode c_L_least 3 = .ok (.aload_n 0, 1) := by decide +kernel
theorem d_L_least_4 : decode c_L_least 4 = .ok (.iload_n 1, 1) := by decide +kernel
theorem d_L_least_5 : decode c_L_least 5 = .ok (.iload_n 2, 1) := by decide +kernel
theorem d_L_least_6 : decode c_L_least 6 = .ok (.iload_n 3, 1) := by decide +kernel
theorem d_L_least_7 : decode c_L_least 7 = .ok (.iload 4, 2) := by decide +kernel
theorem d_L_least_9 : decode c_L_least 9 = .ok (.invokevirtual 61, 3) := by decide +kernel
theorem d_L_least_12 : decode c_L_least 12 = .ok (.i2l, 1) := by decide +kernel
theorem d_L_least_13 : decode c_L_least 13 = .ok (.lastore, 1) := by decide +kernel
theorem d_L_least_14 : decode c_L_least 14 = .ok (.goto 7, 3) := by decide +kernel
theorem d_L_least_17 : decode c_L_least 17 = .ok (.astore 6, 2) := by decide +kernel
theorem d_L_least_19 : decode c_L_least 19 = .ok (.iconst 1, 1) := by decide +kernel
theorem d_L_least_20 : decode c_L_least 20 = .ok (.ireturn, 1) := by decide +kernel
theorem d_L_least_21 : decode c_L_least 21 = .ok (.iconst 0, 1) := by decide +kernel
theorem d_L_least_22 : decode c_L_least 22 = .ok (.ireturn, 1) := by decide +kernel
theorem d_L_mean_0 : decode c_L_mean 0 = .ok (.aload 4, 2) := by decide +kernel
theorem d_L_mean_2 : decode c_L_mean 2 = .ok (.iconst 0, 1) := by decide +kernel
theorem d_L_mean_3 : decode c_L_mean 3 = .ok (.aload_n 0, 1) := by decide +kernel
theorem d_L_mean_4 : decode c_L_mean 4 = .ok (.iload_n 1, 1) := by decide +kernel
theorem d_L_mean_5 : decode c_L_mean 5 = .ok (.iload_n 2, 1) := by decide +kernel
theorem d_L_mean_6 : decode c_L_mean 6 = .ok (.iload_n 3, 1) := by decide +kernel
theorem d_L_mean_7 : decode c_L_mean 7 = .ok (.invokevirtual 65, 3) := by decide +kernel
theorem d_L_mean_10 : decode c_L_mean 10 = .ok (.lastore, 1) := by decide +kernel
theorem d_L_mean_11 : decode c_L_mean 11 = .ok (.goto 7, 3) := by decide +kernel
theorem d_L_mean_14 : decode c_L_mean 14 = .ok (.astore 5, 2) := by decide +kernel
theorem d_L_mean_16 : decode c_L_mean 16 = .ok (.iconst 1, 1) := by decide +kernel
theorem d_L_mean_17 : decode c_L_mean 17 = .ok (.ireturn, 1) := by decide +kernel
theorem d_L_mean_18 : decode c_L_mean 18 = .ok (.iconst 0, 1) := by decide +kernel
theorem d_L_mean_19 : decode c_L_mean 19 = .ok (.ireturn, 1) := by decide +kernel
theorem d_L_weight_0 : decode c_L_weight 0 = .ok (.aload 4, 2) := by decide +kernel
theorem d_L_weight_2 : decode c_L_weight 2 = .ok (.iconst 0, 1) := by decide +kernel
theorem d_L_weight_3 : decode c_L_weight 3 = .ok (.aload_n 0, 1) := by decide +kernel
theorem d_L_weight_4 : decode c_L_weight 4 = .ok (.iload_n 1, 1) := by decide +kernel
theorem d_L_weight_5 : decode c_L_weight 5 = .ok (.iload_n 2, 1) := by decide +kernel
theorem d_L_weight_6 : decode c_L_weight 6 = .ok (.iload_n 3, 1) := by decide +kernel
theorem d_L_weight_7 : decode c_L_weight 7 = .ok (.invokevirtual 69, 3) := by decide +kernel
theorem d_L_weight_10 : decode c_L_weight 10 = .ok (.lastore, 1) := by decide +kernel
theorem d_L_weight_11 : decode c_L_weight 11 = .ok (.goto 7, 3) := by decide +kernel
theorem d_L_weight_14 : decode c_L_weight 14 = .ok (.astore 5, 2) := by decide +kernel
theorem d_L_weight_16 : decode c_L_weight 16 = .ok (.iconst 1, 1) := by decide +kernel
theorem d_L_weight_17 : decode c_L_weight 17 = .ok (.ireturn, 1) := by decide +kernel
theorem d_L_weight_18 : decode c_L_weight 18 = .ok (.iconst 0, 1) := by decide +kernel
theorem d_L_weight_19 : decode c_L_weight 19 = .ok (.ireturn, 1) := by decide +kernel
theorem d_L_joined_0 : decode c_L_joined 0 = .ok (.aload_n 3, 1) := by decide +kernel
theorem d_L_joined_1 : decode c_L_joined 1 = .ok (.iconst 0, 1) := by decide +kernel
theorem d_L_joined_2 : decode c_L_joined 2 = .ok (.aload_n 0, 1) := by decide +kernel
theorem d_L_joined_3 : decode c_L_joined 3 = .ok (.iload_n 1, 1) := by decide +kernel
theorem d_L_joined_4 : decode c_L_joined 4 = .ok (.iload_n 2, 1) := by decide +kernel
theorem d_L_joined_5 : decode c_L_joined 5 = .ok (.invokevirtual 72, 3) := by decide +kernel
theorem d_L_joined_8 : decode c_L_joined 8 = .ok (.lastore, 1) := by decide +kernel
theorem d_L_joined_9 : decode c_L_joined 9 = .ok (.goto 7, 3) := by decide +kernel
theorem d_L_joined_12 : decode c_L_joined 12 = .ok (.astore 4, 2) := by decide +kernel
theorem d_L_joined_14 : decode c_L_joined 14 = .ok (.iconst 1, 1) := by decide +kernel
theorem d_L_joined_15 : decode c_L_joined 15 = .ok (.ireturn, 1) := by decide +kernel
theorem d_L_joined_16 : decode c_L_joined 16 = .ok (.iconst 0, 1) := by decide +kernel
theorem d_L_joined_17 : decode c_L_joined 17 = .ok (.ireturn, 1) := by decide +kernel
theorem d_L_reader_0 : decode c_L_reader 0 = .ok (.aload 4, 2) := by decide +kernel
theorem d_L_reader_2 : decode c_L_reader 2 = .ok (.iconst 0, 1) := by decide +kernel
theorem d_L_reader_3 : decode c_L_reader 3 = .ok (.aload_n 0, 1) := by decide +kernel
theorem d_L_reader_4 : decode c_L_reader 4 = .ok (.iload_n 1, 1) := by decide +kernel
theorem d_L_reader_5 : decode c_L_reader 5 = .ok (.iload_n 2, 1) := by decide +kernel
theorem d_L_reader_6 : decode c_L_reader 6 = .ok (.iload_n 3, 1) := by decide +kernel
theorem d_L_reader_7 : decode c_L_reader 7 = .ok (.invokevirtual 75, 3) := by decide +kernel
theorem d_L_reader_10 : decode c_L_reader 10 = .ok (.ifCond .eq 7, 3) := by decide +kernel
theorem d_L_reader_13 : decode c_L_reader 13 = .ok (.lconst 1, 1) := by decide +kernel
theorem d_L_reader_14 : decode c_L_reader 14 = .ok (.goto 4, 3) := by decide +kernel
theorem d_L_reader_17 : decode c_L_reader 17 = .ok (.lconst 0, 1) := by decide +kernel
theorem d_L_reader_18 : decode c_L_reader 18 = .ok (.lastore, 1) := by decide +kernel
theorem d_L_reader_19 : decode c_L_reader 19 = .ok (.goto 11, 3) := by decide +kernel
theorem d_L_reader_22 : decode c_L_reader 22 = .ok (.astore 5, 2) := by decide +kernel
theorem d_L_reader_24 : decode c_L_reader 24 = .ok (.iconst 1, 1) := by decide +kernel
theorem d_L_reader_25 : decode c_L_reader 25 = .ok (.ireturn, 1) := by decide +kernel
theorem d_L_reader_26 : decode c_L_reader 26 = .ok (.astore 5, 2) := by decide +kernel
theorem d_L_reader_28 : decode c_L_reader 28 = .ok (.iconst 2, 1) := by decide +kernel
theorem d_L_reader_29 : decode c_L_reader 29 = .ok (.ireturn, 1) := by decide +kernel
theorem d_L_reader_30 : decode c_L_reader 30 = .ok (.iconst 0, 1) := by decide +kernel
theorem d_L_reader_31 : decode c_L_reader 31 = .ok (.ireturn, 1) := by decide +kernel
theorem d_L_unlike_0 : decode c_L_unlike 0 = .ok (.aload_n 2, 1) := by decide +kernel
theorem d_L_unlike_1 : decode c_L_unlike 1 = .ok (.iconst 0, 1) := by decide +kernel
theorem d_L_unlike_2 : decode c_L_unlike 2 = .ok (.aload_n 0, 1) := by decide +kernel
theorem d_L_unlike_3 : decode c_L_unlike 3 = .ok (.iload_n 1, 1) := by decide +kernel
theorem d_L_unlike_4 : decode c_L_unlike 4 = .ok (.invokevirtual 78, 3) := by decide +kernel
theorem d_L_unlike_7 : decode c_L_unlike 7 = .ok (.i2l, 1) := by decide +kernel
theorem d_L_unlike_8 : decode c_L_unlike 8 = .ok (.lastore, 1) := by decide +kernel
theorem d_L_unlike_9 : decode c_L_unlike 9 = .ok (.goto 6, 3) := by decide +kernel
theorem d_L_unlike_12 : decode c_L_unlike 12 = .ok (.astore_n 3, 1) := by decide +kernel
theorem d_L_unlike_13 : decode c_L_unlike 13 = .ok (.iconst 1, 1) := by decide +kernel
theorem d_L_unlike_14 : decode c_L_unlike 14 = .ok (.ireturn, 1) := by decide +kernel
theorem d_L_unlike_15 : decode c_L_unlike 15 = .ok (.iconst 0, 1) := by decide +kernel
theorem d_L_unlike_16 : decode c_L_unlike 16 = .ok (.ireturn, 1) := by decide +kernel
theorem d_L_price_0 : decode c_L_price 0 = .ok (.aload_n 0, 1) := by decide +kernel
theorem d_L_price_1 : decode c_L_price 1 = .ok (.iload_n 1, 1) := by decide +kernel
theorem d_L_price_2 : decode c_L_price 2 = .ok (.iload_n 2, 1) := by decide +kernel
theorem d_L_price_3 : decode c_L_price 3 = .ok (.invokevirtual 81, 3) := by decide +kernel
theorem d_L_price_6 : decode c_L_price 6 = .ok (.goto 9, 3) := by decide +kernel
theorem d_L_price_9 : decode c_L_price 9 = .ok (.astore_n 3, 1) := by decide +kernel
theorem d_L_price_10 : decode c_L_price 10 = .ok (.iconst 1, 1) := by decide +kernel
theorem d_L_price_11 : decode c_L_price 11 = .ok (.ireturn, 1) := by decide +kernel
theorem d_L_price_12 : decode c_L_price 12 = .ok (.astore_n 3, 1) := by decide +kernel
theorem d_L_price_13 : decode c_L_price 13 = .ok (.iconst 2, 1) := by decide +kernel
theorem d_L_price_14 : decode c_L_price 14 = .ok (.ireturn, 1) := by decide +kernel
theorem d_L_price_15 : decode c_L_price 15 = .ok (.iconst 0, 1) := by decide +kernel
theorem d_L_price_16 : decode c_L_price 16 = .ok (.ireturn, 1) := by decide +kernel
