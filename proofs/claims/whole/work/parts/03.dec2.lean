theorem d_J_addHaul_31 : decode c_J_addHaul 31 = .ok (.iload_n 2, 1) := by decide +kernel
theorem d_J_addHaul_32 : decode c_J_addHaul 32 = .ok (.aload_n 0, 1) := by decide +kernel
theorem d_J_addHaul_33 : decode c_J_addHaul 33 = .ok (.invokevirtual 45, 3) := by decide +kernel
theorem d_J_addHaul_36 : decode c_J_addHaul 36 = .ok (.bastore, 1) := by decide +kernel
theorem d_J_addHaul_37 : decode c_J_addHaul 37 = .ok (.aload_n 0, 1) := by decide +kernel
theorem d_J_addHaul_38 : decode c_J_addHaul 38 = .ok (.getfield 22, 3) := by decide +kernel
theorem d_J_addHaul_41 : decode c_J_addHaul 41 = .ok (.iload_n 1, 1) := by decide +kernel
theorem d_J_addHaul_42 : decode c_J_addHaul 42 = .ok (.iload_n 2, 1) := by decide +kernel
theorem d_J_addHaul_43 : decode c_J_addHaul 43 = .ok (.iastore, 1) := by decide +kernel
theorem d_J_addHaul_44 : decode c_J_addHaul 44 = .ok (.goto 37, 3) := by decide +kernel
theorem d_J_addHaul_47 : decode c_J_addHaul 47 = .ok (.aload_n 0, 1) := by decide +kernel
theorem d_J_addHaul_48 : decode c_J_addHaul 48 = .ok (.getfield 30, 3) := by decide +kernel
theorem d_J_addHaul_51 : decode c_J_addHaul 51 = .ok (.iload_n 2, 1) := by decide +kernel
theorem d_J_addHaul_52 : decode c_J_addHaul 52 = .ok (.aload_n 0, 1) := by decide +kernel
theorem d_J_addHaul_53 : decode c_J_addHaul 53 = .ok (.getfield 30, 3) := by decide +kernel
theorem d_J_addHaul_56 : decode c_J_addHaul 56 = .ok (.iload_n 3, 1) := by decide +kernel
theorem d_J_addHaul_57 : decode c_J_addHaul 57 = .ok (.baload, 1) := by decide +kernel
theorem d_J_addHaul_58 : decode c_J_addHaul 58 = .ok (.ifCond .ne 7, 3) := by decide +kernel
theorem d_J_addHaul_61 : decode c_J_addHaul 61 = .ok (.iconst 1, 1) := by decide +kernel
theorem d_J_addHaul_62 : decode c_J_addHaul 62 = .ok (.goto 4, 3) := by decide +kernel
theorem d_J_addHaul_65 : decode c_J_addHaul 65 = .ok (.iconst 0, 1) := by decide +kernel
theorem d_J_addHaul_66 : decode c_J_addHaul 66 = .ok (.bastore, 1) := by decide +kernel
theorem d_J_addHaul_67 : decode c_J_addHaul 67 = .ok (.aload_n 0, 1) := by decide +kernel
theorem d_J_addHaul_68 : decode c_J_addHaul 68 = .ok (.getfield 22, 3) := by decide +kernel
theorem d_J_addHaul_71 : decode c_J_addHaul 71 = .ok (.iload_n 1, 1) := by decide +kernel
theorem d_J_addHaul_72 : decode c_J_addHaul 72 = .ok (.iconst (-1), 1) := by decide +kernel
theorem d_J_addHaul_73 : decode c_J_addHaul 73 = .ok (.iastore, 1) := by decide +kernel
theorem d_J_addHaul_74 : decode c_J_addHaul 74 = .ok (.aload_n 0, 1) := by decide +kernel
theorem d_J_addHaul_75 : decode c_J_addHaul 75 = .ok (.iload_n 3, 1) := by decide +kernel
theorem d_J_addHaul_76 : decode c_J_addHaul 76 = .ok (.iload_n 2, 1) := by decide +kernel
theorem d_J_addHaul_77 : decode c_J_addHaul 77 = .ok (.iload_n 1, 1) := by decide +kernel
theorem d_J_addHaul_78 : decode c_J_addHaul 78 = .ok (.invokevirtual 49, 3) := by decide +kernel
theorem d_J_addHaul_81 : decode c_J_addHaul 81 = .ok (.iload_n 2, 1) := by decide +kernel
theorem d_J_addHaul_82 : decode c_J_addHaul 82 = .ok (.ireturn, 1) := by decide +kernel
theorem d_J_drawArm_0 : decode c_J_drawArm 0 = .ok (.aload_n 0, 1) := by decide +kernel
theorem d_J_drawArm_1 : decode c_J_drawArm 1 = .ok (.aload_n 0, 1) := by decide +kernel
theorem d_J_drawArm_2 : decode c_J_drawArm 2 = .ok (.getfield 9, 3) := by decide +kernel
theorem d_J_drawArm_5 : decode c_J_drawArm 5 = .ok (.ldc2_w 53, 3) := by decide +kernel
theorem d_J_drawArm_8 : decode c_J_drawArm 8 = .ok (.lmul, 1) := by decide +kernel
theorem d_J_drawArm_9 : decode c_J_drawArm 9 = .ok (.ldc2_w 55, 3) := by decide +kernel
theorem d_J_drawArm_12 : decode c_J_drawArm 12 = .ok (.ladd, 1) := by decide +kernel
theorem d_J_drawArm_13 : decode c_J_drawArm 13 = .ok (.putfield 9, 3) := by decide +kernel
theorem d_J_drawArm_16 : decode c_J_drawArm 16 = .ok (.aload_n 0, 1) := by decide +kernel
theorem d_J_drawArm_17 : decode c_J_drawArm 17 = .ok (.getfield 9, 3) := by decide +kernel
theorem d_J_drawArm_20 : decode c_J_drawArm 20 = .ok (.bipush 40, 2) := by decide +kernel
theorem d_J_drawArm_22 : decode c_J_drawArm 22 = .ok (.lushr, 1) := by decide +kernel
theorem d_J_drawArm_23 : decode c_J_drawArm 23 = .ok (.lconst 1, 1) := by decide +kernel
theorem d_J_drawArm_24 : decode c_J_drawArm 24 = .ok (.land, 1) := by decide +kernel
theorem d_J_drawArm_25 : decode c_J_drawArm 25 = .ok (.lconst 1, 1) := by decide +kernel
theorem d_J_drawArm_26 : decode c_J_drawArm 26 = .ok (.lcmp, 1) := by decide +kernel
theorem d_J_drawArm_27 : decode c_J_drawArm 27 = .ok (.ifCond .ne 7, 3) := by decide +kernel
theorem d_J_drawArm_30 : decode c_J_drawArm 30 = .ok (.iconst 1, 1) := by decide +kernel
theorem d_J_drawArm_31 : decode c_J_drawArm 31 = .ok (.goto 4, 3) := by decide +kernel
theorem d_J_drawArm_34 : decode c_J_drawArm 34 = .ok (.iconst 0, 1) := by decide +kernel
theorem d_J_drawArm_35 : decode c_J_drawArm 35 = .ok (.ireturn, 1) := by decide +kernel
theorem d_J_addPair_0 : decode c_J_addPair 0 = .ok (.aload_n 0, 1) := by decide +kernel
theorem d_J_addPair_1 : decode c_J_addPair 1 = .ok (.getfield 19, 3) := by decide +kernel
theorem d_J_addPair_4 : decode c_J_addPair 4 = .ok (.bipush 16, 2) := by decide +kernel
theorem d_J_addPair_6 : decode c_J_addPair 6 = .ok (.if_icmp .lt 4, 3) := by decide +kernel
theorem d_J_addPair_9 : decode c_J_addPair 9 = .ok (.return_, 1) := by decide +kernel
theorem d_J_addPair_10 : decode c_J_addPair 10 = .ok (.aload_n 0, 1) := by decide +kernel
theorem d_J_addPair_11 : decode c_J_addPair 11 = .ok (.getfield 30, 3) := by decide +kernel
theorem d_J_addPair_14 : decode c_J_addPair 14 = .ok (.iload_n 1, 1) := by decide +kernel
theorem d_J_addPair_15 : decode c_J_addPair 15 = .ok (.baload, 1) := by decide +kernel
theorem d_J_addPair_16 : decode c_J_addPair 16 = .ok (.istore 4, 2) := by decide +kernel
theorem d_J_addPair_18 : decode c_J_addPair 18 = .ok (.aload_n 0, 1) := by decide +kernel
theorem d_J_addPair_19 : decode c_J_addPair 19 = .ok (.getfield 36, 3) := by decide +kernel
theorem d_J_addPair_22 : decode c_J_addPair 22 = .ok (.aload_n 0, 1) := by decide +kernel
theorem d_J_addPair_23 : decode c_J_addPair 23 = .ok (.getfield 19, 3) := by decide +kernel
theorem d_J_addPair_26 : decode c_J_addPair 26 = .ok (.iload 4, 2) := by decide +kernel
theorem d_J_addPair_28 : decode c_J_addPair 28 = .ok (.ifCond .eq 7, 3) := by decide +kernel
theorem d_J_addPair_31 : decode c_J_addPair 31 = .ok (.iload_n 1, 1) := by decide +kernel
theorem d_J_addPair_32 : decode c_J_addPair 32 = .ok (.goto 4, 3) := by decide +kernel
theorem d_J_addPair_35 : decode c_J_addPair 35 = .ok (.iload_n 2, 1) := by decide +kernel
theorem d_J_addPair_36 : decode c_J_addPair 36 = .ok (.iastore, 1) := by decide +kernel
theorem d_J_addPair_37 : decode c_J_addPair 37 = .ok (.aload_n 0, 1) := by decide +kernel
theorem d_J_addPair_38 : decode c_J_addPair 38 = .ok (.getfield 39, 3) := by decide +kernel
theorem d_J_addPair_41 : decode c_J_addPair 41 = .ok (.aload_n 0, 1) := by decide +kernel
theorem d_J_addPair_42 : decode c_J_addPair 42 = .ok (.getfield 19, 3) := by decide +kernel
theorem d_J_addPair_45 : decode c_J_addPair 45 = .ok (.iload 4, 2) := by decide +kernel
theorem d_J_addPair_47 : decode c_J_addPair 47 = .ok (.ifCond .eq 7, 3) := by decide +kernel
theorem d_J_addPair_50 : decode c_J_addPair 50 = .ok (.iload_n 2, 1) := by decide +kernel
theorem d_J_addPair_51 : decode c_J_addPair 51 = .ok (.goto 4, 3) := by decide +kernel
theorem d_J_addPair_54 : decode c_J_addPair 54 = .ok (.iload_n 1, 1) := by decide +kernel
theorem d_J_addPair_55 : decode c_J_addPair 55 = .ok (.iastore, 1) := by decide +kernel
theorem d_J_addPair_56 : decode c_J_addPair 56 = .ok (.aload_n 0, 1) := by decide +kernel
theorem d_J_addPair_57 : decode c_J_addPair 57 = .ok (.getfield 42, 3) := by decide +kernel
theorem d_J_addPair_60 : decode c_J_addPair 60 = .ok (.aload_n 0, 1) := by decide +kernel
theorem d_J_addPair_61 : decode c_J_addPair 61 = .ok (.getfield 19, 3) := by decide +kernel
theorem d_J_addPair_64 : decode c_J_addPair 64 = .ok (.iload_n 3, 1) := by decide +kernel
theorem d_J_addPair_65 : decode c_J_addPair 65 = .ok (.iastore, 1) := by decide +kernel
theorem d_J_addPair_66 : decode c_J_addPair 66 = .ok (.aload_n 0, 1) := by decide +kernel
theorem d_J_addPair_67 : decode c_J_addPair 67 = .ok (.dup, 1) := by decide +kernel
theorem d_J_addPair_68 : decode c_J_addPair 68 = .ok (.getfield 19, 3) := by decide +kernel
theorem d_J_addPair_71 : decode c_J_addPair 71 = .ok (.iconst 1, 1) := by decide +kernel
theorem d_J_addPair_72 : decode c_J_addPair 72 = .ok (.iadd, 1) := by decide +kernel
theorem d_J_addPair_73 : decode c_J_addPair 73 = .ok (.putfield 19, 3) := by decide +kernel
theorem d_J_addPair_76 : decode c_J_addPair 76 = .ok (.return_, 1) := by decide +kernel
theorem d_J_putCount_0 : decode c_J_putCount 0 = .ok (.iload_n 1, 1) := by decide +kernel
theorem d_J_putCount_1 : decode c_J_putCount 1 = .ok (.iconst 3, 1) := by decide +kernel
theorem d_J_putCount_2 : decode c_J_putCount 2 = .ok (.imul, 1) := by decide +kernel
theorem d_J_putCount_3 : decode c_J_putCount 3 = .ok (.iload_n 2, 1) := by decide +kernel
theorem d_J_putCount_4 : decode c_J_putCount 4 = .ok (.iadd, 1) := by decide +kernel
theorem d_J_putCount_5 : decode c_J_putCount 5 = .ok (.istore 4, 2) := by decide +kernel
theorem d_J_putCount_7 : decode c_J_putCount 7 = .ok (.aload_n 0, 1) := by decide +kernel
theorem d_J_putCount_8 : decode c_J_putCount 8 = .ok (.getfield 33, 3) := by decide +kernel
theorem d_J_putCount_11 : decode c_J_putCount 11 = .ok (.iload 4, 2) := by decide +kernel
theorem d_J_putCount_13 : decode c_J_putCount 13 = .ok (.iaload, 1) := by decide +kernel
theorem d_J_putCount_14 : decode c_J_putCount 14 = .ok (.iload_n 3, 1) := by decide +kernel
theorem d_J_putCount_15 : decode c_J_putCount 15 = .ok (.if_icmp .eq 7, 3) := by decide +kernel
theorem d_J_putCount_18 : decode c_J_putCount 18 = .ok (.iconst 1, 1) := by decide +kernel
theorem d_J_putCount_19 : decode c_J_putCount 19 = .ok (.goto 4, 3) := by decide +kernel
theorem d_J_putCount_22 : decode c_J_putCount 22 = .ok (.iconst 0, 1) := by decide +kernel
theorem d_J_putCount_23 : decode c_J_putCount 23 = .ok (.istore 5, 2) := by decide +kernel
theorem d_J_putCount_25 : decode c_J_putCount 25 = .ok (.aload_n 0, 1) := by decide +kernel
theorem d_J_putCount_26 : decode c_J_putCount 26 = .ok (.getfield 33, 3) := by decide +kernel
theorem d_J_putCount_29 : decode c_J_putCount 29 = .ok (.iload 4, 2) := by decide +kernel
theorem d_J_putCount_31 : decode c_J_putCount 31 = .ok (.iload_n 3, 1) := by decide +kernel
theorem d_J_putCount_32 : decode c_J_putCount 32 = .ok (.iastore, 1) := by decide +kernel
theorem d_J_putCount_33 : decode c_J_putCount 33 = .ok (.iload 5, 2) := by decide +kernel
theorem d_J_putCount_35 : decode c_J_putCount 35 = .ok (.ireturn, 1) := by decide +kernel
theorem d_J_leaveOut_0 : decode c_J_leaveOut 0 = .ok (.aload_n 0, 1) := by decide +kernel
theorem d_J_leaveOut_1 : decode c_J_leaveOut 1 = .ok (.getfield 26, 3) := by decide +kernel
theorem d_J_leaveOut_4 : decode c_J_leaveOut 4 = .ok (.iload_n 1, 1) := by decide +kernel
theorem d_J_leaveOut_5 : decode c_J_leaveOut 5 = .ok (.baload, 1) := by decide +kernel
theorem d_J_leaveOut_6 : decode c_J_leaveOut 6 = .ok (.iload_n 2, 1) := by decide +kernel
theorem d_J_leaveOut_7 : decode c_J_leaveOut 7 = .ok (.if_icmp .eq 7, 3) := by decide +kernel
theorem d_J_leaveOut_10 : decode c_J_leaveOut 10 = .ok (.iconst 1, 1) := by decide +kernel
theorem d_J_leaveOut_11 : decode c_J_leaveOut 11 = .ok (.goto 4, 3) := by decide +kernel
theorem d_J_leaveOut_14 : decode c_J_leaveOut 14 = .ok (.iconst 0, 1) := by decide +kernel
theorem d_J_leaveOut_15 : decode c_J_leaveOut 15 = .ok (.istore_n 3, 1) := by decide +kernel
theorem d_J_leaveOut_16 : decode c_J_leaveOut 16 = .ok (.aload_n 0, 1) := by decide +kernel
theorem d_J_leaveOut_17 : decode c_J_leaveOut 17 = .ok (.getfield 26, 3) := by decide +kernel
theorem d_J_leaveOut_20 : decode c_J_leaveOut 20 = .ok (.iload_n 1, 1) := by decide +kernel
theorem d_J_leaveOut_21 : decode c_J_leaveOut 21 = .ok (.iload_n 2, 1) := by decide +kernel
theorem d_J_leaveOut_22 : decode c_J_leaveOut 22 = .ok (.bastore, 1) := by decide +kernel
theorem d_J_leaveOut_23 : decode c_J_leaveOut 23 = .ok (.iload_n 3, 1) := by decide +kernel
theorem d_J_leaveOut_24 : decode c_J_leaveOut 24 = .ok (.ireturn, 1) := by decide +kernel
theorem d_J_deviceCount_0 : decode c_J_deviceCount 0 = .ok (.aload_n 0, 1) := by decide +kernel
theorem d_J_deviceCount_1 : decode c_J_deviceCount 1 = .ok (.getfield 33, 3) := by decide +kernel
theorem d_J_deviceCount_4 : decode c_J_deviceCount 4 = .ok (.aload_n 0, 1) := by decide +kernel
theorem d_J_deviceCount_5 : decode c_J_deviceCount 5 = .ok (.getfield 36, 3) := by decide +kernel
theorem d_J_deviceCount_8 : decode c_J_deviceCount 8 = .ok (.iload_n 1, 1) := by decide +kernel
theorem d_J_deviceCount_9 : decode c_J_deviceCount 9 = .ok (.iaload, 1) := by decide +kernel
theorem d_J_deviceCount_10 : decode c_J_deviceCount 10 = .ok (.iconst 3, 1) := by decide +kernel
theorem d_J_deviceCount_11 : decode c_J_deviceCount 11 = .ok (.imul, 1) := by decide +kernel
theorem d_J_deviceCount_12 : decode c_J_deviceCount 12 = .ok (.iload_n 2, 1) := by decide +kernel
theorem d_J_deviceCount_13 : decode c_J_deviceCount 13 = .ok (.iadd, 1) := by decide +kernel
theorem d_J_deviceCount_14 : decode c_J_deviceCount 14 = .ok (.iaload, 1) := by decide +kernel
theorem d_J_deviceCount_15 : decode c_J_deviceCount 15 = .ok (.ireturn, 1) := by decide +kernel
theorem d_J_plainCount_0 : decode c_J_plainCount 0 = .ok (.aload_n 0, 1) := by decide +kernel
theorem d_J_plainCount_1 : decode c_J_plainCount 1 = .ok (.getfield 33, 3) := by decide +kernel
theorem d_J_plainCount_4 : decode c_J_plainCount 4 = .ok (.aload_n 0, 1) := by decide +kernel
theorem d_J_plainCount_5 : decode c_J_plainCount 5 = .ok (.getfield 39, 3) := by decide +kernel
theorem d_J_plainCount_8 : decode c_J_plainCount 8 = .ok (.iload_n 1, 1) := by decide +kernel
theorem d_J_plainCount_9 : decode c_J_plainCount 9 = .ok (.iaload, 1) := by decide +kernel
theorem d_J_plainCount_10 : decode c_J_plainCount 10 = .ok (.iconst 3, 1) := by decide +kernel
theorem d_J_plainCount_11 : decode c_J_plainCount 11 = .ok (.imul, 1) := by decide +kernel
theorem d_J_plainCount_12 : decode c_J_plainCount 12 = .ok (.iload_n 2, 1) := by decide +kernel
theorem d_J_plainCount_13 : decode c_J_plainCount 13 = .ok (.iadd, 1) := by decide +kernel
theorem d_J_plainCount_14 : decode c_J_plainCount 14 = .ok (.iaload, 1) := by decide +kernel
theorem d_J_plainCount_15 : decode c_J_plainCount 15 = .ok (.ireturn, 1) := by decide +kernel
theorem d_J_differenceOf_0 : decode c_J_differenceOf 0 = .ok (.aload_n 0, 1) := by decide +kernel
theorem d_J_differenceOf_1 : decode c_J_differenceOf 1 = .ok (.iload_n 1, 1) := by decide +kernel
theorem d_J_differenceOf_2 : decode c_J_differenceOf 2 = .ok (.iload_n 2, 1) := by decide +kernel
theorem d_J_differenceOf_3 : decode c_J_differenceOf 3 = .ok (.invokevirtual 57, 3) := by decide +kernel
theorem d_J_differenceOf_6 : decode c_J_differenceOf 6 = .ok (.aload_n 0, 1) := by decide +kernel
theorem d_J_differenceOf_7 : decode c_J_differenceOf 7 = .ok (.iload_n 1, 1) := by decide +kernel
theorem d_J_differenceOf_8 : decode c_J_differenceOf 8 = .ok (.iload_n 2, 1) := by decide +kernel
theorem d_J_differenceOf_9 : decode c_J_differenceOf 9 = .ok (.invokevirtual 61, 3) := by decide +kernel
theorem d_J_differenceOf_12 : decode c_J_differenceOf 12 = .ok (.isub, 1) := by decide +kernel
theorem d_J_differenceOf_13 : decode c_J_differenceOf 13 = .ok (.ireturn, 1) := by decide +kernel
theorem d_J_keeps_0 : decode c_J_keeps 0 = .ok (.aload_n 0, 1) := by decide +kernel
theorem d_J_keeps_1 : decode c_J_keeps 1 = .ok (.iload_n 1, 1) := by decide +kernel
theorem d_J_keeps_2 : decode c_J_keeps 2 = .ok (.iload_n 2, 1) := by decide +kernel
theorem d_J_keeps_3 : decode c_J_keeps 3 = .ok (.invokevirtual 57, 3) := by decide +kernel
theorem d_J_keeps_6 : decode c_J_keeps 6 = .ok (.ifCond .ne 16, 3) := by decide +kernel
theorem d_J_keeps_9 : decode c_J_keeps 9 = .ok (.aload_n 0, 1) := by decide +kernel
theorem d_J_keeps_10 : decode c_J_keeps 10 = .ok (.iload_n 1, 1) := by decide +kernel
theorem d_J_keeps_11 : decode c_J_keeps 11 = .ok (.iload_n 2, 1) := by decide +kernel
theorem d_J_keeps_12 : decode c_J_keeps 12 = .ok (.invokevirtual 61, 3) := by decide +kernel
theorem d_J_keeps_15 : decode c_J_keeps 15 = .ok (.ifCond .ne 7, 3) := by decide +kernel
theorem d_J_keeps_18 : decode c_J_keeps 18 = .ok (.iconst 1, 1) := by decide +kernel
theorem d_J_keeps_19 : decode c_J_keeps 19 = .ok (.goto 4, 3) := by decide +kernel
theorem d_J_keeps_22 : decode c_J_keeps 22 = .ok (.iconst 0, 1) := by decide +kernel
theorem d_J_keeps_23 : decode c_J_keeps 23 = .ok (.istore_n 3, 1) := by decide +kernel
theorem d_J_keeps_24 : decode c_J_keeps 24 = .ok (.iload_n 3, 1) := by decide +kernel
theorem d_J_keeps_25 : decode c_J_keeps 25 = .ok (.ifCond .ne 21, 3) := by decide +kernel
theorem d_J_keeps_28 : decode c_J_keeps 28 = .ok (.aload_n 0, 1) := by decide +kernel
theorem d_J_keeps_29 : decode c_J_keeps 29 = .ok (.getfield 26, 3) := by decide +kernel
theorem d_J_keeps_32 : decode c_J_keeps 32 = .ok (.aload_n 0, 1) := by decide +kernel
theorem d_J_keeps_33 : decode c_J_keeps 33 = .ok (.getfield 42, 3) := by decide +kernel
theorem d_J_keeps_36 : decode c_J_keeps 36 = .ok (.iload_n 1, 1) := by decide +kernel
theorem d_J_keeps_37 : decode c_J_keeps 37 = .ok (.iaload, 1) := by decide +kernel
theorem d_J_keeps_38 : decode c_J_keeps 38 = .ok (.baload, 1) := by decide +kernel
theorem d_J_keeps_39 : decode c_J_keeps 39 = .ok (.ifCond .ne 7, 3) := by decide +kernel
theorem d_J_keeps_42 : decode c_J_keeps 42 = .ok (.iconst 1, 1) := by decide +kernel
theorem d_J_keeps_43 : decode c_J_keeps 43 = .ok (.goto 4, 3) := by decide +kernel
theorem d_J_keeps_46 : decode c_J_keeps 46 = .ok (.iconst 0, 1) := by decide +kernel
theorem d_J_keeps_47 : decode c_J_keeps 47 = .ok (.ireturn, 1) := by decide +kernel
theorem d_J_keptDifference_0 : decode c_J_keptDifference 0 = .ok (.aload_n 0, 1) := by decide +kernel
theorem d_J_keptDifference_1 : decode c_J_keptDifference 1 = .ok (.iload_n 1, 1) := by decide +kernel
theorem d_J_keptDifference_2 : decode c_J_keptDifference 2 = .ok (.iload_n 2, 1) := by decide +kernel
theorem d_J_keptDifference_3 : decode c_J_keptDifference 3 = .ok (.invokevirtual 64, 3) := by decide +kernel
theorem d_J_keptDifference_6 : decode c_J_keptDifference 6 = .ok (.ifCond .eq 12, 3) := by decide +kernel
theorem d_J_keptDifference_9 : decode c_J_keptDifference 9 = .ok (.aload_n 0, 1) := by decide +kernel
theorem d_J_keptDifference_10 : decode c_J_keptDifference 10 = .ok (.iload_n 1, 1) := by decide +kernel
theorem d_J_keptDifference_11 : decode c_J_keptDifference 11 = .ok (.iload_n 2, 1) := by decide +kernel
theorem d_J_keptDifference_12 : decode c_J_keptDifference 12 = .ok (.invokevirtual 68, 3) := by decide +kernel
theorem d_J_keptDifference_15 : decode c_J_keptDifference 15 = .ok (.goto 4, 3) := by decide +kernel
theorem d_J_keptDifference_18 : decode c_J_keptDifference 18 = .ok (.iconst 0, 1) := by decide +kernel
theorem d_J_keptDifference_19 : decode c_J_keptDifference 19 = .ok (.ireturn, 1) := by decide +kernel
theorem d_J_isOf_0 : decode c_J_isOf 0 = .ok (.iload_n 2, 1) := by decide +kernel
theorem d_J_isOf_1 : decode c_J_isOf 1 = .ok (.iconst 4, 1) := by decide +kernel
theorem d_J_isOf_2 : decode c_J_isOf 2 = .ok (.if_icmp .eq 13, 3) := by decide +kernel
theorem d_J_isOf_5 : decode c_J_isOf 5 = .ok (.aload_n 0, 1) := by decide +kernel
theorem d_J_isOf_6 : decode c_J_isOf 6 = .ok (.getfield 42, 3) := by decide +kernel
theorem d_J_isOf_9 : decode c_J_isOf 9 = .ok (.iload_n 1, 1) := by decide +kernel
theorem d_J_isOf_10 : decode c_J_isOf 10 = .ok (.iaload, 1) := by decide +kernel
theorem d_J_isOf_11 : decode c_J_isOf 11 = .ok (.iload_n 2, 1) := by decide +kernel
theorem d_J_isOf_12 : decode c_J_isOf 12 = .ok (.if_icmp .ne 7, 3) := by decide +kernel
theorem d_J_isOf_15 : decode c_J_isOf 15 = .ok (.iconst 1, 1) := by decide +kernel
theorem d_J_isOf_16 : decode c_J_isOf 16 = .ok (.goto 4, 3) := by decide +kernel
theorem d_J_isOf_19 : decode c_J_isOf 19 = .ok (.iconst 0, 1) := by decide +kernel
theorem d_J_isOf_20 : decode c_J_isOf 20 = .ok (.ireturn, 1) := by decide +kernel
theorem d_J_keptOf_0 : decode c_J_keptOf 0 = .ok (.iconst 0, 1) := by decide +kernel
theorem d_J_keptOf_1 : decode c_J_keptOf 1 = .ok (.istore_n 3, 1) := by decide +kernel
theorem d_J_keptOf_2 : decode c_J_keptOf 2 = .ok (.iconst 0, 1) := by decide +kernel
theorem d_J_keptOf_3 : decode c_J_keptOf 3 = .ok (.istore 4, 2) := by decide +kernel
theorem d_J_keptOf_5 : decode c_J_keptOf 5 = .ok (.iload 4, 2) := by decide +kernel
theorem d_J_keptOf_7 : decode c_J_keptOf 7 = .ok (.aload_n 0, 1) := by decide +kernel
theorem d_J_keptOf_8 : decode c_J_keptOf 8 = .ok (.getfield 19, 3) := by decide +kernel
theorem d_J_keptOf_11 : decode c_J_keptOf 11 = .ok (.if_icmp .ge 32, 3) := by decide +kernel
theorem d_J_keptOf_14 : decode c_J_keptOf 14 = .ok (.aload_n 0, 1) := by decide +kernel
theorem d_J_keptOf_15 : decode c_J_keptOf 15 = .ok (.iload 4, 2) := by decide +kernel
theorem d_J_keptOf_17 : decode c_J_keptOf 17 = .ok (.iload_n 1, 1) := by decide +kernel
theorem d_J_keptOf_18 : decode c_J_keptOf 18 = .ok (.invokevirtual 71, 3) := by decide +kernel
theorem d_J_keptOf_21 : decode c_J_keptOf 21 = .ok (.ifCond .eq 16, 3) := by decide +kernel
theorem d_J_keptOf_24 : decode c_J_keptOf 24 = .ok (.aload_n 0, 1) := by decide +kernel
theorem d_J_keptOf_25 : decode c_J_keptOf 25 = .ok (.iload 4, 2) := by decide +kernel
theorem d_J_keptOf_27 : decode c_J_keptOf 27 = .ok (.iload_n 2, 1) := by decide +kernel
theorem d_J_keptOf_28 : decode c_J_keptOf 28 = .ok (.invokevirtual 64, 3) := by decide +kernel
theorem d_J_keptOf_31 : decode c_J_keptOf 31 = .ok (.ifCond .eq 6, 3) := by decide +kernel
theorem d_J_keptOf_34 : decode c_J_keptOf 34 = .ok (.iinc 3 1, 3) := by decide +kernel
theorem d_J_keptOf_37 : decode c_J_keptOf 37 = .ok (.iinc 4 1, 3) := by decide +kernel
theorem d_J_keptOf_40 : decode c_J_keptOf 40 = .ok (.goto (-35), 3) := by decide +kernel
theorem d_J_keptOf_43 : decode c_J_keptOf 43 = .ok (.iload_n 3, 1) := by decide +kernel
theorem d_J_keptOf_44 : decode c_J_keptOf 44 = .ok (.ireturn, 1) := by decide +kernel
theorem d_J_sumOf_0 : decode c_J_sumOf 0 = .ok (.iconst 0, 1) := by decide +kernel
theorem d_J_sumOf_1 : decode c_J_sumOf 1 = .ok (.istore_n 3, 1) := by decide +kernel
theorem d_J_sumOf_2 : decode c_J_sumOf 2 = .ok (.iconst 0, 1) := by decide +kernel
theorem d_J_sumOf_3 : decode c_J_sumOf 3 = .ok (.istore 4, 2) := by decide +kernel
theorem d_J_sumOf_5 : decode c_J_sumOf 5 = .ok (.iload 4, 2) := by decide +kernel
theorem d_J_sumOf_7 : decode c_J_sumOf 7 = .ok (.aload_n 0, 1) := by decide +kernel
theorem d_J_sumOf_8 : decode c_J_sumOf 8 = .ok (.getfield 19, 3) := by decide +kernel
theorem d_J_sumOf_11 : decode c_J_sumOf 11 = .ok (.if_icmp .ge 29, 3) := by decide +kernel
theorem d_J_sumOf_14 : decode c_J_sumOf 14 = .ok (.aload_n 0, 1) := by decide +kernel
theorem d_J_sumOf_15 : decode c_J_sumOf 15 = .ok (.iload 4, 2) := by decide +kernel
theorem d_J_sumOf_17 : decode c_J_sumOf 17 = .ok (.iload_n 1, 1) := by decide +kernel
theorem d_J_sumOf_18 : decode c_J_sumOf 18 = .ok (.invokevirtual 71, 3) := by decide +kernel
theorem d_J_sumOf_21 : decode c_J_sumOf 21 = .ok (.ifCond .eq 13, 3) := by decide +kernel
theorem d_J_sumOf_24 : decode c_J_sumOf 24 = .ok (.iload_n 3, 1) := by decide +kernel
theorem d_J_sumOf_25 : decode c_J_sumOf 25 = .ok (.aload_n 0, 1) := by decide +kernel
theorem d_J_sumOf_26 : decode c_J_sumOf 26 = .ok (.iload 4, 2) := by decide +kernel
theorem d_J_sumOf_28 : decode c_J_sumOf 28 = .ok (.iload_n 2, 1) := by decide +kernel
theorem d_J_sumOf_29 : decode c_J_sumOf 29 = .ok (.invokevirtual 74, 3) := by decide +kernel
theorem d_J_sumOf_32 : decode c_J_sumOf 32 = .ok (.iadd, 1) := by decide +kernel
theorem d_J_sumOf_33 : decode c_J_sumOf 33 = .ok (.istore_n 3, 1) := by decide +kernel
theorem d_J_sumOf_34 : decode c_J_sumOf 34 = .ok (.iinc 4 1, 3) := by decide +kernel
theorem d_J_sumOf_37 : decode c_J_sumOf 37 = .ok (.goto (-32), 3) := by decide +kernel
theorem d_J_sumOf_40 : decode c_J_sumOf 40 = .ok (.iload_n 3, 1) := by decide +kernel
theorem d_J_sumOf_41 : decode c_J_sumOf 41 = .ok (.ireturn, 1) := by decide +kernel
theorem d_J_rankOf_0 : decode c_J_rankOf 0 = .ok (.aload_n 0, 1) := by decide +kernel
theorem d_J_rankOf_1 : decode c_J_rankOf 1 = .ok (.iload_n 1, 1) := by decide +kernel
theorem d_J_rankOf_2 : decode c_J_rankOf 2 = .ok (.iload_n 2, 1) := by decide +kernel
theorem d_J_rankOf_3 : decode c_J_rankOf 3 = .ok (.invokevirtual 74, 3) := by decide +kernel
theorem d_J_rankOf_6 : decode c_J_rankOf 6 = .ok (.invokestatic 77, 3) := by decide +kernel
theorem d_J_rankOf_9 : decode c_J_rankOf 9 = .ok (.istore_n 3, 1) := by decide +kernel
theorem d_J_rankOf_10 : decode c_J_rankOf 10 = .ok (.iload_n 3, 1) := by decide +kernel
theorem d_J_rankOf_11 : decode c_J_rankOf 11 = .ok (.ifCond .ne 5, 3) := by decide +kernel
theorem d_J_rankOf_14 : decode c_J_rankOf 14 = .ok (.iconst 0, 1) := by decide +kernel
theorem d_J_rankOf_15 : decode c_J_rankOf 15 = .ok (.ireturn, 1) := by decide +kernel
theorem d_J_rankOf_16 : decode c_J_rankOf 16 = .ok (.iconst 1, 1) := by decide +kernel
theorem d_J_rankOf_17 : decode c_J_rankOf 17 = .ok (.istore 4, 2) := by decide +kernel
theorem d_J_rankOf_19 : decode c_J_rankOf 19 = .ok (.iconst 0, 1) := by decide +kernel
theorem d_J_rankOf_20 : decode c_J_rankOf 20 = .ok (.istore 5, 2) := by decide +kernel
theorem d_J_rankOf_22 : decode c_J_rankOf 22 = .ok (.iload 5, 2) := by decide +kernel
theorem d_J_rankOf_24 : decode c_J_rankOf 24 = .ok (.aload_n 0, 1) := by decide +kernel
theorem d_J_rankOf_25 : decode c_J_rankOf 25 = .ok (.getfield 19, 3) := by decide +kernel
theorem d_J_rankOf_28 : decode c_J_rankOf 28 = .ok (.if_icmp .ge 47, 3) := by decide +kernel
theorem d_J_rankOf_31 : decode c_J_rankOf 31 = .ok (.aload_n 0, 1) := by decide +kernel
theorem d_J_rankOf_32 : decode c_J_rankOf 32 = .ok (.iload 5, 2) := by decide +kernel
theorem d_J_rankOf_34 : decode c_J_rankOf 34 = .ok (.iload_n 2, 1) := by decide +kernel
theorem d_J_rankOf_35 : decode c_J_rankOf 35 = .ok (.invokevirtual 74, 3) := by decide +kernel
theorem d_J_rankOf_38 : decode c_J_rankOf 38 = .ok (.invokestatic 77, 3) := by decide +kernel
theorem d_J_rankOf_41 : decode c_J_rankOf 41 = .ok (.istore 6, 2) := by decide +kernel
theorem d_J_rankOf_43 : decode c_J_rankOf 43 = .ok (.iload 6, 2) := by decide +kernel
theorem d_J_rankOf_45 : decode c_J_rankOf 45 = .ok (.iload_n 3, 1) := by decide +kernel
theorem d_J_rankOf_46 : decode c_J_rankOf 46 = .ok (.if_icmp .ne 9, 3) := by decide +kernel
theorem d_J_rankOf_49 : decode c_J_rankOf 49 = .ok (.iinc 4 1, 3) := by decide +kernel
theorem d_J_rankOf_52 : decode c_J_rankOf 52 = .ok (.goto 17, 3) := by decide +kernel
theorem d_J_rankOf_55 : decode c_J_rankOf 55 = .ok (.iload 6, 2) := by decide +kernel
theorem d_J_rankOf_57 : decode c_J_rankOf 57 = .ok (.ifCond .le 12, 3) := by decide +kernel
theorem d_J_rankOf_60 : decode c_J_rankOf 60 = .ok (.iload 6, 2) := by decide +kernel
theorem d_J_rankOf_62 : decode c_J_rankOf 62 = .ok (.iload_n 3, 1) := by decide +kernel
theorem d_J_rankOf_63 : decode c_J_rankOf 63 = .ok (.if_icmp .ge 6, 3) := by decide +kernel
theorem d_J_rankOf_66 : decode c_J_rankOf 66 = .ok (.iinc 4 2, 3) := by decide +kernel
theorem d_J_rankOf_69 : decode c_J_rankOf 69 = .ok (.iinc 5 1, 3) := by decide +kernel
theorem d_J_rankOf_72 : decode c_J_rankOf 72 = .ok (.goto (-50), 3) := by decide +kernel
theorem d_J_rankOf_75 : decode c_J_rankOf 75 = .ok (.iload 4, 2) := by decide +kernel
theorem d_J_rankOf_77 : decode c_J_rankOf 77 = .ok (.ireturn, 1) := by decide +kernel
theorem d_C_init_0 : decode c_C_init 0 = .ok (.aload_n 0, 1) := by decide +kernel
theorem d_C_init_1 : decode c_C_init 1 = .ok (.invokespecial 3, 3) := by decide +kernel
theorem d_C_init_4 : decode c_C_init 4 = .ok (.aload_n 0, 1) := by decide +kernel
theorem d_C_init_5 : decode c_C_init 5 = .ok (.bipush 64, 2) := by decide +kernel
theorem d_C_init_7 : decode c_C_init 7 = .ok (.newarray .int, 2) := by decide +kernel
theorem d_C_init_9 : decode c_C_init 9 = .ok (.putfield 9, 3) := by decide +kernel
theorem d_C_init_12 : decode c_C_init 12 = .ok (.iconst 0, 1) := by decide +kernel
theorem d_C_init_13 : decode c_C_init 13 = .ok (.istore_n 1, 1) := by decide +kernel
theorem d_C_init_14 : decode c_C_init 14 = .ok (.iload_n 1, 1) := by decide +kernel
theorem d_C_init_15 : decode c_C_init 15 = .ok (.bipush 64, 2) := by decide +kernel
theorem d_C_init_17 : decode c_C_init 17 = .ok (.if_icmp .ge 16, 3) := by decide +kernel
theorem d_C_init_20 : decode c_C_init 20 = .ok (.aload_n 0, 1) := by decide +kernel
theorem d_C_init_21 : decode c_C_init 21 = .ok (.getfield 9, 3) := by decide +kernel
theorem d_C_init_24 : decode c_C_init 24 = .ok (.iload_n 1, 1) := by decide +kernel
theorem d_C_init_25 : decode c_C_init 25 = .ok (.iconst (-1), 1) := by decide +kernel
theorem d_C_init_26 : decode c_C_init 26 = .ok (.iastore, 1) := by decide +kernel
theorem d_C_init_27 : decode c_C_init 27 = .ok (.iinc 1 1, 3) := by decide +kernel
theorem d_C_init_30 : decode c_C_init 30 = .ok (.goto (-16), 3) := by decide +kernel
theorem d_C_init_33 : decode c_C_init 33 = .ok (.return_, 1) := by decide +kernel
theorem d_C_putReading_0 : decode c_C_putReading 0 = .ok (.aload_n 0, 1) := by decide +kernel
theorem d_C_putReading_1 : decode c_C_putReading 1 = .ok (.getfield 9, 3) := by decide +kernel
theorem d_C_putReading_4 : decode c_C_putReading 4 = .ok (.iload_n 1, 1) := by decide +kernel
theorem d_C_putReading_5 : decode c_C_putReading 5 = .ok (.iconst 2, 1) := by decide +kernel
theorem d_C_putReading_6 : decode c_C_putReading 6 = .ok (.imul, 1) := by decide +kernel
theorem d_C_putReading_7 : decode c_C_putReading 7 = .ok (.iload_n 2, 1) := by decide +kernel
theorem d_C_putReading_8 : decode c_C_putReading 8 = .ok (.iadd, 1) := by decide +kernel
theorem d_C_putReading_9 : decode c_C_putReading 9 = .ok (.iload_n 3, 1) := by decide +kernel
theorem d_C_putReading_10 : decode c_C_putReading 10 = .ok (.iastore, 1) := by decide +kernel
theorem d_C_putReading_11 : decode c_C_putReading 11 = .ok (.return_, 1) := by decide +kernel
theorem d_C_differs_0 : decode c_C_differs 0 = .ok (.aload_n 0, 1) := by decide +kernel
theorem d_C_differs_1 : decode c_C_differs 1 = .ok (.getfield 9, 3) := by decide +kernel
theorem d_C_differs_4 : decode c_C_differs 4 = .ok (.iload_n 1, 1) := by decide +kernel
theorem d_C_differs_5 : decode c_C_differs 5 = .ok (.iconst 2, 1) := by decide +kernel
theorem d_C_differs_6 : decode c_C_differs 6 = .ok (.imul, 1) := by decide +kernel
theorem d_C_differs_7 : decode c_C_differs 7 = .ok (.iaload, 1) := by decide +kernel
theorem d_C_differs_8 : decode c_C_differs 8 = .ok (.istore_n 2, 1) := by decide +kernel
theorem d_C_differs_9 : decode c_C_differs 9 = .ok (.aload_n 0, 1) := by decide +kernel
theorem d_C_differs_10 : decode c_C_differs 10 = .ok (.getfield 9, 3) := by decide +kernel
theorem d_C_differs_13 : decode c_C_differs 13 = .ok (.iload_n 1, 1) := by decide +kernel
theorem d_C_differs_14 : decode c_C_differs 14 = .ok (.iconst 2, 1) := by decide +kernel
theorem d_C_differs_15 : decode c_C_differs 15 = .ok (.imul, 1) := by decide +kernel
theorem d_C_differs_16 : decode c_C_differs 16 = .ok (.iconst 1, 1) := by decide +kernel
theorem d_C_differs_17 : decode c_C_differs 17 = .ok (.iadd, 1) := by decide +kernel
theorem d_C_differs_18 : decode c_C_differs 18 = .ok (.iaload, 1) := by decide +kernel
theorem d_C_differs_19 : decode c_C_differs 19 = .ok (.istore_n 3, 1) := by decide +kernel
theorem d_C_differs_20 : decode c_C_differs 20 = .ok (.iload_n 2, 1) := by decide +kernel
theorem d_C_differs_21 : decode c_C_differs 21 = .ok (.iconst (-1), 1) := by decide +kernel
theorem d_C_differs_22 : decode c_C_differs 22 = .ok (.if_icmp .eq 27, 3) := by decide +kernel
theorem d_C_differs_25 : decode c_C_differs 25 = .ok (.iload_n 3, 1) := by decide +kernel
theorem d_C_differs_26 : decode c_C_differs 26 = .ok (.iconst (-1), 1) := by decide +kernel
theorem d_C_differs_27 : decode c_C_differs 27 = .ok (.if_icmp .eq 22, 3) := by decide +kernel
theorem d_C_differs_30 : decode c_C_differs 30 = .ok (.bipush 10, 2) := by decide +kernel
theorem d_C_differs_32 : decode c_C_differs 32 = .ok (.iload_n 2, 1) := by decide +kernel
theorem d_C_differs_33 : decode c_C_differs 33 = .ok (.iload_n 3, 1) := by decide +kernel
theorem d_C_differs_34 : decode c_C_differs 34 = .ok (.isub, 1) := by decide +kernel
theorem d_C_differs_35 : decode c_C_differs 35 = .ok (.invokestatic 15, 3) := by decide +kernel
theorem d_C_differs_38 : decode c_C_differs 38 = .ok (.imul, 1) := by decide +kernel
theorem d_C_differs_39 : decode c_C_differs 39 = .ok (.iload_n 2, 1) := by decide +kernel
theorem d_C_differs_40 : decode c_C_differs 40 = .ok (.iload_n 3, 1) := by decide +kernel
theorem d_C_differs_41 : decode c_C_differs 41 = .ok (.iadd, 1) := by decide +kernel
theorem d_C_differs_42 : decode c_C_differs 42 = .ok (.if_icmp .le 7, 3) := by decide +kernel
theorem d_C_differs_45 : decode c_C_differs 45 = .ok (.iconst 1, 1) := by decide +kernel
theorem d_C_differs_46 : decode c_C_differs 46 = .ok (.goto 4, 3) := by decide +kernel
theorem d_C_differs_49 : decode c_C_differs 49 = .ok (.iconst 0, 1) := by decide +kernel
theorem d_C_differs_50 : decode c_C_differs 50 = .ok (.ireturn, 1) := by decide +kernel
theorem d_H_init_0 : decode c_H_init 0 = .ok (.aload_n 0, 1) := by decide +kernel
theorem d_H_init_1 : decode c_H_init 1 = .ok (.invokespecial 3, 3) := by decide +kernel
theorem d_H_init_4 : decode c_H_init 4 = .ok (.aload_n 0, 1) := by decide +kernel
theorem d_H_init_5 : decode c_H_init 5 = .ok (.bipush 16, 2) := by decide +kernel
theorem d_H_init_7 : decode c_H_init 7 = .ok (.newarray .int, 2) := by decide +kernel
theorem d_H_init_9 : decode c_H_init 9 = .ok (.putfield 9, 3) := by decide +kernel
theorem d_H_init_12 : decode c_H_init 12 = .ok (.aload_n 0, 1) := by decide +kernel
theorem d_H_init_13 : decode c_H_init 13 = .ok (.iconst 0, 1) := by decide +kernel
theorem d_H_init_14 : decode c_H_init 14 = .ok (.putfield 15, 3) := by decide +kernel
theorem d_H_init_17 : decode c_H_init 17 = .ok (.aload_n 0, 1) := by decide +kernel
theorem d_H_init_18 : decode c_H_init 18 = .ok (.iconst 0, 1) := by decide +kernel
theorem d_H_init_19 : decode c_H_init 19 = .ok (.putfield 19, 3) := by decide +kernel
theorem d_H_init_22 : decode c_H_init 22 = .ok (.aload_n 0, 1) := by decide +kernel
theorem d_H_init_23 : decode c_H_init 23 = .ok (.sipush 256, 3) := by decide +kernel
theorem d_H_init_26 : decode c_H_init 26 = .ok (.newarray .int, 2) := by decide +kernel
theorem d_H_init_28 : decode c_H_init 28 = .ok (.putfield 22, 3) := by decide +kernel
theorem d_H_init_31 : decode c_H_init 31 = .ok (.aload_n 0, 1) := by decide +kernel
theorem d_H_init_32 : decode c_H_init 32 = .ok (.sipush 256, 3) := by decide +kernel
theorem d_H_init_35 : decode c_H_init 35 = .ok (.newarray .int, 2) := by decide +kernel
theorem d_H_init_37 : decode c_H_init 37 = .ok (.putfield 25, 3) := by decide +kernel
theorem d_H_init_40 : decode c_H_init 40 = .ok (.aload_n 0, 1) := by decide +kernel
theorem d_H_init_41 : decode c_H_init 41 = .ok (.sipush 256, 3) := by decide +kernel
theorem d_H_init_44 : decode c_H_init 44 = .ok (.newarray .int, 2) := by decide +kernel
theorem d_H_init_46 : decode c_H_init 46 = .ok (.putfield 28, 3) := by decide +kernel
theorem d_H_init_49 : decode c_H_init 49 = .ok (.return_, 1) := by decide +kernel
theorem d_H_clear_0 : decode c_H_clear 0 = .ok (.aload_n 0, 1) := by decide +kernel
theorem d_H_clear_1 : decode c_H_clear 1 = .ok (.iconst 0, 1) := by decide +kernel
theorem d_H_clear_2 : decode c_H_clear 2 = .ok (.putfield 15, 3) := by decide +kernel
theorem d_H_clear_5 : decode c_H_clear 5 = .ok (.aload_n 0, 1) := by decide +kernel
theorem d_H_clear_6 : decode c_H_clear 6 = .ok (.iconst 0, 1) := by decide +kernel
theorem d_H_clear_7 : decode c_H_clear 7 = .ok (.putfield 19, 3) := by decide +kernel
theorem d_H_clear_10 : decode c_H_clear 10 = .ok (.return_, 1) := by decide +kernel
theorem d_H_add_0 : decode c_H_add 0 = .ok (.aload_n 0, 1) := by decide +kernel
theorem d_H_add_1 : decode c_H_add 1 = .ok (.getfield 15, 3) := by decide +kernel
theorem d_H_add_4 : decode c_H_add 4 = .ok (.bipush 16, 2) := by decide +kernel
theorem d_H_add_6 : decode c_H_add 6 = .ok (.if_icmp .ge 41, 3) := by decide +kernel
theorem d_H_add_9 : decode c_H_add 9 = .ok (.aload_n 0, 1) := by decide +kernel
theorem d_H_add_10 : decode c_H_add 10 = .ok (.getfield 9, 3) := by decide +kernel
theorem d_H_add_13 : decode c_H_add 13 = .ok (.aload_n 0, 1) := by decide +kernel
theorem d_H_add_14 : decode c_H_add 14 = .ok (.getfield 15, 3) := by decide +kernel
theorem d_H_add_17 : decode c_H_add 17 = .ok (.iload_n 1, 1) := by decide +kernel
theorem d_H_add_18 : decode c_H_add 18 = .ok (.iastore, 1) := by decide +kernel
theorem d_H_add_19 : decode c_H_add 19 = .ok (.aload_n 0, 1) := by decide +kernel
theorem d_H_add_20 : decode c_H_add 20 = .ok (.dup, 1) := by decide +kernel
theorem d_H_add_21 : decode c_H_add 21 = .ok (.getfield 15, 3) := by decide +kernel
theorem d_H_add_24 : decode c_H_add 24 = .ok (.iconst 1, 1) := by decide +kernel
theorem d_H_add_25 : decode c_H_add 25 = .ok (.iadd, 1) := by decide +kernel
theorem d_H_add_26 : decode c_H_add 26 = .ok (.putfield 15, 3) := by decide +kernel
theorem d_H_add_29 : decode c_H_add 29 = .ok (.aload_n 0, 1) := by decide +kernel
theorem d_H_add_30 : decode c_H_add 30 = .ok (.dup, 1) := by decide +kernel
theorem d_H_add_31 : decode c_H_add 31 = .ok (.getfield 19, 3) := by decide +kernel
theorem d_H_add_34 : decode c_H_add 34 = .ok (.iload_n 2, 1) := by decide +kernel
theorem d_H_add_35 : decode c_H_add 35 = .ok (.ifCond .eq 7, 3) := by decide +kernel
theorem d_H_add_38 : decode c_H_add 38 = .ok (.iload_n 1, 1) := by decide +kernel
theorem d_H_add_39 : decode c_H_add 39 = .ok (.goto 4, 3) := by decide +kernel
theorem d_H_add_42 : decode c_H_add 42 = .ok (.iconst 0, 1) := by decide +kernel
theorem d_H_add_43 : decode c_H_add 43 = .ok (.iadd, 1) := by decide +kernel
theorem d_H_add_44 : decode c_H_add 44 = .ok (.putfield 19, 3) := by decide +kernel
theorem d_H_add_47 : decode c_H_add 47 = .ok (.return_, 1) := by decide +kernel
theorem d_H_countAll_0 : decode c_H_countAll 0 = .ok (.lconst 1, 1) := by decide +kernel
theorem d_H_countAll_1 : decode c_H_countAll 1 = .ok (.aload_n 0, 1) := by decide +kernel
theorem d_H_countAll_2 : decode c_H_countAll 2 = .ok (.getfield 15, 3) := by decide +kernel
theorem d_H_countAll_5 : decode c_H_countAll 5 = .ok (.lshl, 1) := by decide +kernel
theorem d_H_countAll_6 : decode c_H_countAll 6 = .ok (.lreturn, 1) := by decide +kernel
theorem d_H_countNotAbove_0 : decode c_H_countNotAbove 0 = .ok (.aload_n 0, 1) := by decide +kernel
theorem d_H_countNotAbove_1 : decode c_H_countNotAbove 1 = .ok (.getfield 15, 3) := by decide +kernel
theorem d_H_countNotAbove_4 : decode c_H_countNotAbove 4 = .ok (.iconst 2, 1) := by decide +kernel
theorem d_H_countNotAbove_5 : decode c_H_countNotAbove 5 = .ok (.idiv, 1) := by decide +kernel
theorem d_H_countNotAbove_6 : decode c_H_countNotAbove 6 = .ok (.istore_n 1, 1) := by decide +kernel
theorem d_H_countNotAbove_7 : decode c_H_countNotAbove 7 = .ok (.aload_n 0, 1) := by decide +kernel
theorem d_H_countNotAbove_8 : decode c_H_countNotAbove 8 = .ok (.aload_n 0, 1) := by decide +kernel
theorem d_H_countNotAbove_9 : decode c_H_countNotAbove 9 = .ok (.getfield 22, 3) := by decide +kernel
theorem d_H_countNotAbove_12 : decode c_H_countNotAbove 12 = .ok (.iconst 0, 1) := by decide +kernel
theorem d_H_countNotAbove_13 : decode c_H_countNotAbove 13 = .ok (.iload_n 1, 1) := by decide +kernel
theorem d_H_countNotAbove_14 : decode c_H_countNotAbove 14 = .ok (.invokevirtual 31, 3) := by decide +kernel
theorem d_H_countNotAbove_17 : decode c_H_countNotAbove 17 = .ok (.istore_n 2, 1) := by decide +kernel
theorem d_H_countNotAbove_18 : decode c_H_countNotAbove 18 = .ok (.aload_n 0, 1) := by decide +kernel
theorem d_H_countNotAbove_19 : decode c_H_countNotAbove 19 = .ok (.aload_n 0, 1) := by decide +kernel
theorem d_H_countNotAbove_20 : decode c_H_countNotAbove 20 = .ok (.getfield 25, 3) := by decide +kernel
theorem d_H_countNotAbove_23 : decode c_H_countNotAbove 23 = .ok (.iload_n 1, 1) := by decide +kernel
theorem d_H_countNotAbove_24 : decode c_H_countNotAbove 24 = .ok (.aload_n 0, 1) := by decide +kernel
theorem d_H_countNotAbove_25 : decode c_H_countNotAbove 25 = .ok (.getfield 15, 3) := by decide +kernel
theorem d_H_countNotAbove_28 : decode c_H_countNotAbove 28 = .ok (.invokevirtual 31, 3) := by decide +kernel
theorem d_H_countNotAbove_31 : decode c_H_countNotAbove 31 = .ok (.istore_n 3, 1) := by decide +kernel
theorem d_H_countNotAbove_32 : decode c_H_countNotAbove 32 = .ok (.lconst 0, 1) := by decide +kernel
theorem d_H_countNotAbove_33 : decode c_H_countNotAbove 33 = .ok (.lstore 4, 2) := by decide +kernel
theorem d_H_countNotAbove_35 : decode c_H_countNotAbove 35 = .ok (.iconst 0, 1) := by decide +kernel
theorem d_H_countNotAbove_36 : decode c_H_countNotAbove 36 = .ok (.istore 6, 2) := by decide +kernel
theorem d_H_countNotAbove_38 : decode c_H_countNotAbove 38 = .ok (.iload 6, 2) := by decide +kernel
theorem d_H_countNotAbove_40 : decode c_H_countNotAbove 40 = .ok (.iload_n 2, 1) := by decide +kernel
theorem d_H_countNotAbove_41 : decode c_H_countNotAbove 41 = .ok (.if_icmp .ge 49, 3) := by decide +kernel
theorem d_H_countNotAbove_44 : decode c_H_countNotAbove 44 = .ok (.iload_n 3, 1) := by decide +kernel
theorem d_H_countNotAbove_45 : decode c_H_countNotAbove 45 = .ok (.ifCond .le 32, 3) := by decide +kernel
theorem d_H_countNotAbove_48 : decode c_H_countNotAbove 48 = .ok (.aload_n 0, 1) := by decide +kernel
theorem d_H_countNotAbove_49 : decode c_H_countNotAbove 49 = .ok (.getfield 22, 3) := by decide +kernel
theorem d_H_countNotAbove_52 : decode c_H_countNotAbove 52 = .ok (.iload 6, 2) := by decide +kernel
theorem d_H_countNotAbove_54 : decode c_H_countNotAbove 54 = .ok (.iaload, 1) := by decide +kernel
theorem d_H_countNotAbove_55 : decode c_H_countNotAbove 55 = .ok (.aload_n 0, 1) := by decide +kernel
theorem d_H_countNotAbove_56 : decode c_H_countNotAbove 56 = .ok (.getfield 25, 3) := by decide +kernel
theorem d_H_countNotAbove_59 : decode c_H_countNotAbove 59 = .ok (.iload_n 3, 1) := by decide +kernel
theorem d_H_countNotAbove_60 : decode c_H_countNotAbove 60 = .ok (.iconst 1, 1) := by decide +kernel
theorem d_H_countNotAbove_61 : decode c_H_countNotAbove 61 = .ok (.isub, 1) := by decide +kernel
theorem d_H_countNotAbove_62 : decode c_H_countNotAbove 62 = .ok (.iaload, 1) := by decide +kernel
theorem d_H_countNotAbove_63 : decode c_H_countNotAbove 63 = .ok (.iadd, 1) := by decide +kernel
theorem d_H_countNotAbove_64 : decode c_H_countNotAbove 64 = .ok (.aload_n 0, 1) := by decide +kernel
theorem d_H_countNotAbove_65 : decode c_H_countNotAbove 65 = .ok (.getfield 19, 3) := by decide +kernel
theorem d_H_countNotAbove_68 : decode c_H_countNotAbove 68 = .ok (.if_icmp .le 9, 3) := by decide +kernel
theorem d_H_countNotAbove_71 : decode c_H_countNotAbove 71 = .ok (.iinc 3 (-1), 3) := by decide +kernel
theorem d_H_countNotAbove_74 : decode c_H_countNotAbove 74 = .ok (.goto (-30), 3) := by decide +kernel
theorem d_H_countNotAbove_77 : decode c_H_countNotAbove 77 = .ok (.lload 4, 2) := by decide +kernel
theorem d_H_countNotAbove_79 : decode c_H_countNotAbove 79 = .ok (.iload_n 3, 1) := by decide +kernel
theorem d_H_countNotAbove_80 : decode c_H_countNotAbove 80 = .ok (.i2l, 1) := by decide +kernel
theorem d_H_countNotAbove_81 : decode c_H_countNotAbove 81 = .ok (.ladd, 1) := by decide +kernel
theorem d_H_countNotAbove_82 : decode c_H_countNotAbove 82 = .ok (.lstore 4, 2) := by decide +kernel
theorem d_H_countNotAbove_84 : decode c_H_countNotAbove 84 = .ok (.iinc 6 1, 3) := by decide +kernel
theorem d_H_countNotAbove_87 : decode c_H_countNotAbove 87 = .ok (.goto (-49), 3) := by decide +kernel
theorem d_H_countNotAbove_90 : decode c_H_countNotAbove 90 = .ok (.lload 4, 2) := by decide +kernel
theorem d_H_countNotAbove_92 : decode c_H_countNotAbove 92 = .ok (.lreturn, 1) := by decide +kernel
theorem d_H_fillSums_0 : decode c_H_fillSums 0 = .ok (.iconst 1, 1) := by decide +kernel
theorem d_H_fillSums_1 : decode c_H_fillSums 1 = .ok (.istore 4, 2) := by decide +kernel
theorem d_H_fillSums_3 : decode c_H_fillSums 3 = .ok (.aload_n 1, 1) := by decide +kernel
theorem d_H_fillSums_4 : decode c_H_fillSums 4 = .ok (.iconst 0, 1) := by decide +kernel
theorem d_H_fillSums_5 : decode c_H_fillSums 5 = .ok (.iconst 0, 1) := by decide +kernel
theorem d_H_fillSums_6 : decode c_H_fillSums 6 = .ok (.iastore, 1) := by decide +kernel
theorem d_H_fillSums_7 : decode c_H_fillSums 7 = .ok (.iload_n 2, 1) := by decide +kernel
theorem d_H_fillSums_8 : decode c_H_fillSums 8 = .ok (.istore 5, 2) := by decide +kernel
theorem d_H_fillSums_10 : decode c_H_fillSums 10 = .ok (.iload 5, 2) := by decide +kernel
theorem d_H_fillSums_12 : decode c_H_fillSums 12 = .ok (.iload_n 3, 1) := by decide +kernel
theorem d_H_fillSums_13 : decode c_H_fillSums 13 = .ok (.if_icmp .ge 29, 3) := by decide +kernel
theorem d_H_fillSums_16 : decode c_H_fillSums 16 = .ok (.aload_n 0, 1) := by decide +kernel
theorem d_H_fillSums_17 : decode c_H_fillSums 17 = .ok (.aload_n 1, 1) := by decide +kernel
theorem d_H_fillSums_18 : decode c_H_fillSums 18 = .ok (.iload 4, 2) := by decide +kernel
theorem d_H_fillSums_20 : decode c_H_fillSums 20 = .ok (.aload_n 0, 1) := by decide +kernel
theorem d_H_fillSums_21 : decode c_H_fillSums 21 = .ok (.getfield 9, 3) := by decide +kernel
theorem d_H_fillSums_24 : decode c_H_fillSums 24 = .ok (.iload 5, 2) := by decide +kernel
theorem d_H_fillSums_26 : decode c_H_fillSums 26 = .ok (.iaload, 1) := by decide +kernel
theorem d_H_fillSums_27 : decode c_H_fillSums 27 = .ok (.invokevirtual 35, 3) := by decide +kernel
theorem d_H_fillSums_30 : decode c_H_fillSums 30 = .ok (.iload 4, 2) := by decide +kernel
theorem d_H_fillSums_32 : decode c_H_fillSums 32 = .ok (.iconst 2, 1) := by decide +kernel
theorem d_H_fillSums_33 : decode c_H_fillSums 33 = .ok (.imul, 1) := by decide +kernel
theorem d_H_fillSums_34 : decode c_H_fillSums 34 = .ok (.istore 4, 2) := by decide +kernel
theorem d_H_fillSums_36 : decode c_H_fillSums 36 = .ok (.iinc 5 1, 3) := by decide +kernel
theorem d_H_fillSums_39 : decode c_H_fillSums 39 = .ok (.goto (-29), 3) := by decide +kernel
theorem d_H_fillSums_42 : decode c_H_fillSums 42 = .ok (.iload 4, 2) := by decide +kernel
theorem d_H_fillSums_44 : decode c_H_fillSums 44 = .ok (.ireturn, 1) := by decide +kernel
theorem d_H_addWeight_0 : decode c_H_addWeight 0 = .ok (.aload_n 1, 1) := by decide +kernel
theorem d_H_addWeight_1 : decode c_H_addWeight 1 = .ok (.iconst 0, 1) := by decide +kernel
theorem d_H_addWeight_2 : decode c_H_addWeight 2 = .ok (.aload_n 0, 1) := by decide +kernel
theorem d_H_addWeight_3 : decode c_H_addWeight 3 = .ok (.getfield 28, 3) := by decide +kernel
theorem d_H_addWeight_6 : decode c_H_addWeight 6 = .ok (.iconst 0, 1) := by decide +kernel
theorem d_H_addWeight_7 : decode c_H_addWeight 7 = .ok (.iload_n 2, 1) := by decide +kernel
theorem d_H_addWeight_8 : decode c_H_addWeight 8 = .ok (.invokestatic 39, 3) := by decide +kernel
theorem d_H_addWeight_11 : decode c_H_addWeight 11 = .ok (.iconst 0, 1) := by decide +kernel
theorem d_H_addWeight_12 : decode c_H_addWeight 12 = .ok (.istore 4, 2) := by decide +kernel
theorem d_H_addWeight_14 : decode c_H_addWeight 14 = .ok (.iconst 0, 1) := by decide +kernel
theorem d_H_addWeight_15 : decode c_H_addWeight 15 = .ok (.istore 5, 2) := by decide +kernel
theorem d_H_addWeight_17 : decode c_H_addWeight 17 = .ok (.iconst 0, 1) := by decide +kernel
theorem d_H_addWeight_18 : decode c_H_addWeight 18 = .ok (.istore 6, 2) := by decide +kernel
theorem d_H_addWeight_20 : decode c_H_addWeight 20 = .ok (.iload 6, 2) := by decide +kernel
theorem d_H_addWeight_22 : decode c_H_addWeight 22 = .ok (.iconst 2, 1) := by decide +kernel
theorem d_H_addWeight_23 : decode c_H_addWeight 23 = .ok (.iload_n 2, 1) := by decide +kernel
theorem d_H_addWeight_24 : decode c_H_addWeight 24 = .ok (.imul, 1) := by decide +kernel
theorem d_H_addWeight_25 : decode c_H_addWeight 25 = .ok (.if_icmp .ge 85, 3) := by decide +kernel
theorem d_H_addWeight_28 : decode c_H_addWeight 28 = .ok (.iload 5, 2) := by decide +kernel
theorem d_H_addWeight_30 : decode c_H_addWeight 30 = .ok (.iload_n 2, 1) := by decide +kernel
theorem d_H_addWeight_31 : decode c_H_addWeight 31 = .ok (.if_icmp .ge 28, 3) := by decide +kernel
theorem d_H_addWeight_34 : decode c_H_addWeight 34 = .ok (.iload 4, 2) := by decide +kernel
theorem d_H_addWeight_36 : decode c_H_addWeight 36 = .ok (.iload_n 2, 1) := by decide +kernel
theorem d_H_addWeight_37 : decode c_H_addWeight 37 = .ok (.if_icmp .ge 26, 3) := by decide +kernel
theorem d_H_addWeight_40 : decode c_H_addWeight 40 = .ok (.aload_n 0, 1) := by decide +kernel
theorem d_H_addWeight_41 : decode c_H_addWeight 41 = .ok (.getfield 28, 3) := by decide +kernel
theorem d_H_addWeight_44 : decode c_H_addWeight 44 = .ok (.iload 4, 2) := by decide +kernel
theorem d_H_addWeight_46 : decode c_H_addWeight 46 = .ok (.iaload, 1) := by decide +kernel
theorem d_H_addWeight_47 : decode c_H_addWeight 47 = .ok (.aload_n 0, 1) := by decide +kernel
theorem d_H_addWeight_48 : decode c_H_addWeight 48 = .ok (.getfield 28, 3) := by decide +kernel
theorem d_H_addWeight_51 : decode c_H_addWeight 51 = .ok (.iload 5, 2) := by decide +kernel
theorem d_H_addWeight_53 : decode c_H_addWeight 53 = .ok (.iaload, 1) := by decide +kernel
theorem d_H_addWeight_54 : decode c_H_addWeight 54 = .ok (.iload_n 3, 1) := by decide +kernel
theorem d_H_addWeight_55 : decode c_H_addWeight 55 = .ok (.iadd, 1) := by decide +kernel
theorem d_H_addWeight_56 : decode c_H_addWeight 56 = .ok (.if_icmp .gt 7, 3) := by decide +kernel
theorem d_H_addWeight_59 : decode c_H_addWeight 59 = .ok (.iconst 1, 1) := by decide +kernel
theorem d_H_addWeight_60 : decode c_H_addWeight 60 = .ok (.goto 4, 3) := by decide +kernel
theorem d_H_addWeight_63 : decode c_H_addWeight 63 = .ok (.iconst 0, 1) := by decide +kernel
theorem d_H_addWeight_64 : decode c_H_addWeight 64 = .ok (.istore 7, 2) := by decide +kernel
theorem d_H_addWeight_66 : decode c_H_addWeight 66 = .ok (.iload 7, 2) := by decide +kernel
theorem d_H_addWeight_68 : decode c_H_addWeight 68 = .ok (.ifCond .eq 20, 3) := by decide +kernel
theorem d_H_addWeight_71 : decode c_H_addWeight 71 = .ok (.aload_n 1, 1) := by decide +kernel
theorem d_H_addWeight_72 : decode c_H_addWeight 72 = .ok (.iload 6, 2) := by decide +kernel
theorem d_H_addWeight_74 : decode c_H_addWeight 74 = .ok (.aload_n 0, 1) := by decide +kernel
theorem d_H_addWeight_75 : decode c_H_addWeight 75 = .ok (.getfield 28, 3) := by decide +kernel
theorem d_H_addWeight_78 : decode c_H_addWeight 78 = .ok (.iload 4, 2) := by decide +kernel
theorem d_H_addWeight_80 : decode c_H_addWeight 80 = .ok (.iaload, 1) := by decide +kernel
theorem d_H_addWeight_81 : decode c_H_addWeight 81 = .ok (.iastore, 1) := by decide +kernel
theorem d_H_addWeight_82 : decode c_H_addWeight 82 = .ok (.iinc 4 1, 3) := by decide +kernel
theorem d_H_addWeight_85 : decode c_H_addWeight 85 = .ok (.goto 19, 3) := by decide +kernel
theorem d_H_addWeight_88 : decode c_H_addWeight 88 = .ok (.aload_n 1, 1) := by decide +kernel
theorem d_H_addWeight_89 : decode c_H_addWeight 89 = .ok (.iload 6, 2) := by decide +kernel
theorem d_H_addWeight_91 : decode c_H_addWeight 91 = .ok (.aload_n 0, 1) := by decide +kernel
theorem d_H_addWeight_92 : decode c_H_addWeight 92 = .ok (.getfield 28, 3) := by decide +kernel
theorem d_H_addWeight_95 : decode c_H_addWeight 95 = .ok (.iload 5, 2) := by decide +kernel
theorem d_H_addWeight_97 : decode c_H_addWeight 97 = .ok (.iaload, 1) := by decide +kernel
theorem d_H_addWeight_98 : decode c_H_addWeight 98 = .ok (.iload_n 3, 1) := by decide +kernel
theorem d_H_addWeight_99 : decode c_H_addWeight 99 = .ok (.iadd, 1) := by decide +kernel
theorem d_H_addWeight_100 : decode c_H_addWeight 100 = .ok (.iastore, 1) := by decide +kernel
theorem d_H_addWeight_101 : decode c_H_addWeight 101 = .ok (.iinc 5 1, 3) := by decide +kernel
theorem d_H_addWeight_104 : decode c_H_addWeight 104 = .ok (.iinc 6 1, 3) := by decide +kernel
theorem d_H_addWeight_107 : decode c_H_addWeight 107 = .ok (.goto (-87), 3) := by decide +kernel
theorem d_H_addWeight_110 : decode c_H_addWeight 110 = .ok (.return_, 1) := by decide +kernel
theorem d_K_init_0 : decode c_K_init 0 = .ok (.aload_n 0, 1) := by decide +kernel
theorem d_K_init_1 : decode c_K_init 1 = .ok (.invokespecial 3, 3) := by decide +kernel
theorem d_K_init_4 : decode c_K_init 4 = .ok (.aload_n 0, 1) := by decide +kernel
theorem d_K_init_5 : decode c_K_init 5 = .ok (.bipush 33, 2) := by decide +kernel
theorem d_K_init_7 : decode c_K_init 7 = .ok (.newarray .long, 2) := by decide +kernel
theorem d_K_init_9 : decode c_K_init 9 = .ok (.putfield 9, 3) := by decide +kernel
theorem d_K_init_12 : decode c_K_init 12 = .ok (.aload_n 0, 1) := by decide +kernel
theorem d_K_init_13 : decode c_K_init 13 = .ok (.iconst 1, 1) := by decide +kernel
theorem d_K_init_14 : decode c_K_init 14 = .ok (.putfield 15, 3) := by decide +kernel
theorem d_K_init_17 : decode c_K_init 17 = .ok (.aload_n 0, 1) := by decide +kernel
theorem d_K_init_18 : decode c_K_init 18 = .ok (.lconst 0, 1) := by decide +kernel
theorem d_K_init_19 : decode c_K_init 19 = .ok (.putfield 19, 3) := by decide +kernel
theorem d_K_init_22 : decode c_K_init 22 = .ok (.aload_n 0, 1) := by decide +kernel
theorem d_K_init_23 : decode c_K_init 23 = .ok (.lconst 1, 1) := by decide +kernel
theorem d_K_init_24 : decode c_K_init 24 = .ok (.putfield 23, 3) := by decide +kernel
theorem d_K_init_27 : decode c_K_init 27 = .ok (.return_, 1) := by decide +kernel
theorem d_K_start_0 : decode c_K_start 0 = .ok (.iconst 0, 1) := by decide +kernel
theorem d_K_start_1 : decode c_K_start 1 = .ok (.istore_n 3, 1) := by decide +kernel
theorem d_K_start_2 : decode c_K_start 2 = .ok (.iload_n 3, 1) := by decide +kernel
theorem d_K_start_3 : decode c_K_start 3 = .ok (.bipush 32, 2) := by decide +kernel
theorem d_K_start_5 : decode c_K_start 5 = .ok (.if_icmp .gt 25, 3) := by decide +kernel
theorem d_K_start_8 : decode c_K_start 8 = .ok (.aload_n 0, 1) := by decide +kernel
theorem d_K_start_9 : decode c_K_start 9 = .ok (.getfield 9, 3) := by decide +kernel
theorem d_K_start_12 : decode c_K_start 12 = .ok (.iload_n 3, 1) := by decide +kernel
theorem d_K_start_13 : decode c_K_start 13 = .ok (.iload_n 3, 1) := by decide +kernel
theorem d_K_start_14 : decode c_K_start 14 = .ok (.iload_n 2, 1) := by decide +kernel
theorem d_K_start_15 : decode c_K_start 15 = .ok (.if_icmp .ne 7, 3) := by decide +kernel
theorem d_K_start_18 : decode c_K_start 18 = .ok (.lconst 1, 1) := by decide +kernel
theorem d_K_start_19 : decode c_K_start 19 = .ok (.goto 4, 3) := by decide +kernel
theorem d_K_start_22 : decode c_K_start 22 = .ok (.lconst 0, 1) := by decide +kernel
theorem d_K_start_23 : decode c_K_start 23 = .ok (.lastore, 1) := by decide +kernel
theorem d_K_start_24 : decode c_K_start 24 = .ok (.iinc 3 1, 3) := by decide +kernel
theorem d_K_start_27 : decode c_K_start 27 = .ok (.goto (-25), 3) := by decide +kernel
theorem d_K_start_30 : decode c_K_start 30 = .ok (.aload_n 0, 1) := by decide +kernel
theorem d_K_start_31 : decode c_K_start 31 = .ok (.iload_n 1, 1) := by decide +kernel
theorem d_K_start_32 : decode c_K_start 32 = .ok (.iload_n 2, 1) := by decide +kernel
theorem d_K_start_33 : decode c_K_start 33 = .ok (.iadd, 1) := by decide +kernel
theorem d_K_start_34 : decode c_K_start 34 = .ok (.putfield 15, 3) := by decide +kernel
theorem d_K_start_37 : decode c_K_start 37 = .ok (.aload_n 0, 1) := by decide +kernel
theorem d_K_start_38 : decode c_K_start 38 = .ok (.lconst 0, 1) := by decide +kernel
theorem d_K_start_39 : decode c_K_start 39 = .ok (.putfield 19, 3) := by decide +kernel
theorem d_K_start_42 : decode c_K_start 42 = .ok (.aload_n 0, 1) := by decide +kernel
theorem d_K_start_43 : decode c_K_start 43 = .ok (.lconst 1, 1) := by decide +kernel
theorem d_K_start_44 : decode c_K_start 44 = .ok (.putfield 23, 3) := by decide +kernel
theorem d_K_start_47 : decode c_K_start 47 = .ok (.return_, 1) := by decide +kernel
theorem d_K_goOn_0 : decode c_K_goOn 0 = .ok (.aload_n 0, 1) := by decide +kernel
theorem d_K_goOn_1 : decode c_K_goOn 1 = .ok (.ldc2_w 26, 3) := by decide +kernel
theorem d_K_goOn_4 : decode c_K_goOn 4 = .ok (.aload_n 0, 1) := by decide +kernel
theorem d_K_goOn_5 : decode c_K_goOn 5 = .ok (.getfield 19, 3) := by decide +kernel
theorem d_K_goOn_8 : decode c_K_goOn 8 = .ok (.lmul, 1) := by decide +kernel
theorem d_K_goOn_9 : decode c_K_goOn 9 = .ok (.aload_n 0, 1) := by decide +kernel
theorem d_K_goOn_10 : decode c_K_goOn 10 = .ok (.getfield 9, 3) := by decide +kernel
theorem d_K_goOn_13 : decode c_K_goOn 13 = .ok (.aload_n 0, 1) := by decide +kernel
theorem d_K_goOn_14 : decode c_K_goOn 14 = .ok (.getfield 15, 3) := by decide +kernel
theorem d_K_goOn_17 : decode c_K_goOn 17 = .ok (.iconst 1, 1) := by decide +kernel
theorem d_K_goOn_18 : decode c_K_goOn 18 = .ok (.isub, 1) := by decide +kernel
theorem d_K_goOn_19 : decode c_K_goOn 19 = .ok (.laload, 1) := by decide +kernel
theorem d_K_goOn_20 : decode c_K_goOn 20 = .ok (.ladd, 1) := by decide +kernel
theorem d_K_goOn_21 : decode c_K_goOn 21 = .ok (.putfield 19, 3) := by decide +kernel
theorem d_K_goOn_24 : decode c_K_goOn 24 = .ok (.aload_n 0, 1) := by decide +kernel
theorem d_K_goOn_25 : decode c_K_goOn 25 = .ok (.dup, 1) := by decide +kernel
theorem d_K_goOn_26 : decode c_K_goOn 26 = .ok (.getfield 23, 3) := by decide +kernel
theorem d_K_goOn_29 : decode c_K_goOn 29 = .ok (.ldc2_w 26, 3) := by decide +kernel
theorem d_K_goOn_32 : decode c_K_goOn 32 = .ok (.lmul, 1) := by decide +kernel
theorem d_K_goOn_33 : decode c_K_goOn 33 = .ok (.putfield 23, 3) := by decide +kernel
theorem d_K_goOn_36 : decode c_K_goOn 36 = .ok (.lconst 0, 1) := by decide +kernel
theorem d_K_goOn_37 : decode c_K_goOn 37 = .ok (.lstore_n 1, 1) := by decide +kernel
theorem d_K_goOn_38 : decode c_K_goOn 38 = .ok (.iconst 1, 1) := by decide +kernel
theorem d_K_goOn_39 : decode c_K_goOn 39 = .ok (.istore_n 3, 1) := by decide +kernel
theorem d_K_goOn_40 : decode c_K_goOn 40 = .ok (.iload_n 3, 1) := by decide +kernel
theorem d_K_goOn_41 : decode c_K_goOn 41 = .ok (.aload_n 0, 1) := by decide +kernel
theorem d_K_goOn_42 : decode c_K_goOn 42 = .ok (.getfield 15, 3) := by decide +kernel
theorem d_K_goOn_45 : decode c_K_goOn 45 = .ok (.if_icmp .ge 36, 3) := by decide +kernel
theorem d_K_goOn_48 : decode c_K_goOn 48 = .ok (.aload_n 0, 1) := by decide +kernel
theorem d_K_goOn_49 : decode c_K_goOn 49 = .ok (.getfield 9, 3) := by decide +kernel
theorem d_K_goOn_52 : decode c_K_goOn 52 = .ok (.iload_n 3, 1) := by decide +kernel
theorem d_K_goOn_53 : decode c_K_goOn 53 = .ok (.laload, 1) := by decide +kernel
theorem d_K_goOn_54 : decode c_K_goOn 54 = .ok (.lstore 4, 2) := by decide +kernel
theorem d_K_goOn_56 : decode c_K_goOn 56 = .ok (.aload_n 0, 1) := by decide +kernel
theorem d_K_goOn_57 : decode c_K_goOn 57 = .ok (.getfield 9, 3) := by decide +kernel
theorem d_K_goOn_60 : decode c_K_goOn 60 = .ok (.iload_n 3, 1) := by decide +kernel
theorem d_K_goOn_61 : decode c_K_goOn 61 = .ok (.lload_n 1, 1) := by decide +kernel
theorem d_K_goOn_62 : decode c_K_goOn 62 = .ok (.aload_n 0, 1) := by decide +kernel
theorem d_K_goOn_63 : decode c_K_goOn 63 = .ok (.getfield 9, 3) := by decide +kernel
theorem d_K_goOn_66 : decode c_K_goOn 66 = .ok (.iload_n 3, 1) := by decide +kernel
theorem d_K_goOn_67 : decode c_K_goOn 67 = .ok (.iconst 1, 1) := by decide +kernel
theorem d_K_goOn_68 : decode c_K_goOn 68 = .ok (.iadd, 1) := by decide +kernel
theorem d_K_goOn_69 : decode c_K_goOn 69 = .ok (.laload, 1) := by decide +kernel
theorem d_K_goOn_70 : decode c_K_goOn 70 = .ok (.ladd, 1) := by decide +kernel
theorem d_K_goOn_71 : decode c_K_goOn 71 = .ok (.lastore, 1) := by decide +kernel
theorem d_K_goOn_72 : decode c_K_goOn 72 = .ok (.lload 4, 2) := by decide +kernel
theorem d_K_goOn_74 : decode c_K_goOn 74 = .ok (.lstore_n 1, 1) := by decide +kernel
theorem d_K_goOn_75 : decode c_K_goOn 75 = .ok (.iinc 3 1, 3) := by decide +kernel
theorem d_K_goOn_78 : decode c_K_goOn 78 = .ok (.goto (-38), 3) := by decide +kernel
theorem d_K_goOn_81 : decode c_K_goOn 81 = .ok (.return_, 1) := by decide +kernel
theorem d_M_init_0 : decode c_M_init 0 = .ok (.aload_n 0, 1) := by decide +kernel
theorem d_M_init_1 : decode c_M_init 1 = .ok (.invokespecial 1, 3) := by decide +kernel
theorem d_M_init_4 : decode c_M_init 4 = .ok (.aload_n 0, 1) := by decide +kernel
theorem d_M_init_5 : decode c_M_init 5 = .ok (.bipush 32, 2) := by decide +kernel
theorem d_M_init_7 : decode c_M_init 7 = .ok (.newarray .int, 2) := by decide +kernel
theorem d_M_init_9 : decode c_M_init 9 = .ok (.putfield 7, 3) := by decide +kernel
theorem d_M_init_12 : decode c_M_init 12 = .ok (.aload_n 0, 1) := by decide +kernel
theorem d_M_init_13 : decode c_M_init 13 = .ok (.bipush 32, 2) := by decide +kernel
theorem d_M_init_15 : decode c_M_init 15 = .ok (.newarray .boolean, 2) := by decide +kernel
theorem d_M_init_17 : decode c_M_init 17 = .ok (.putfield 13, 3) := by decide +kernel
theorem d_M_init_20 : decode c_M_init 20 = .ok (.aload_n 0, 1) := by decide +kernel
theorem d_M_init_21 : decode c_M_init 21 = .ok (.bipush 96, 2) := by decide +kernel
theorem d_M_init_23 : decode c_M_init 23 = .ok (.newarray .int, 2) := by decide +kernel
theorem d_M_init_25 : decode c_M_init 25 = .ok (.putfield 17, 3) := by decide +kernel
theorem d_M_init_28 : decode c_M_init 28 = .ok (.aload_n 0, 1) := by decide +kernel
theorem d_M_init_29 : decode c_M_init 29 = .ok (.iconst 4, 1) := by decide +kernel
theorem d_M_init_30 : decode c_M_init 30 = .ok (.newarray .int, 2) := by decide +kernel
theorem d_M_init_32 : decode c_M_init 32 = .ok (.putfield 20, 3) := by decide +kernel
theorem d_M_init_35 : decode c_M_init 35 = .ok (.aload_n 0, 1) := by decide +kernel
theorem d_M_init_36 : decode c_M_init 36 = .ok (.iconst 4, 1) := by decide +kernel
theorem d_M_init_37 : decode c_M_init 37 = .ok (.newarray .int, 2) := by decide +kernel
