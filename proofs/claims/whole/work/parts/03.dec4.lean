theorem d_M_rankOf_3 : decode c_M_rankOf 3 = .ok (.invokevirtual 91, 3) := by decide +kernel
theorem d_M_rankOf_6 : decode c_M_rankOf 6 = .ok (.ifCond .ne 5, 3) := by decide +kernel
theorem d_M_rankOf_9 : decode c_M_rankOf 9 = .ok (.iconst 0, 1) := by decide +kernel
theorem d_M_rankOf_10 : decode c_M_rankOf 10 = .ok (.ireturn, 1) := by decide +kernel
theorem d_M_rankOf_11 : decode c_M_rankOf 11 = .ok (.iconst 1, 1) := by decide +kernel
theorem d_M_rankOf_12 : decode c_M_rankOf 12 = .ok (.istore_n 3, 1) := by decide +kernel
theorem d_M_rankOf_13 : decode c_M_rankOf 13 = .ok (.iconst 0, 1) := by decide +kernel
theorem d_M_rankOf_14 : decode c_M_rankOf 14 = .ok (.istore 4, 2) := by decide +kernel
theorem d_M_rankOf_16 : decode c_M_rankOf 16 = .ok (.iload 4, 2) := by decide +kernel
theorem d_M_rankOf_18 : decode c_M_rankOf 18 = .ok (.aload_n 0, 1) := by decide +kernel
theorem d_M_rankOf_19 : decode c_M_rankOf 19 = .ok (.getfield 70, 3) := by decide +kernel
theorem d_M_rankOf_22 : decode c_M_rankOf 22 = .ok (.if_icmp .ge 76, 3) := by decide +kernel
theorem d_M_rankOf_25 : decode c_M_rankOf 25 = .ok (.aload_n 0, 1) := by decide +kernel
theorem d_M_rankOf_26 : decode c_M_rankOf 26 = .ok (.iload 4, 2) := by decide +kernel
theorem d_M_rankOf_28 : decode c_M_rankOf 28 = .ok (.iload_n 2, 1) := by decide +kernel
theorem d_M_rankOf_29 : decode c_M_rankOf 29 = .ok (.invokevirtual 91, 3) := by decide +kernel
theorem d_M_rankOf_32 : decode c_M_rankOf 32 = .ok (.ifCond .eq 16, 3) := by decide +kernel
theorem d_M_rankOf_35 : decode c_M_rankOf 35 = .ok (.aload_n 0, 1) := by decide +kernel
theorem d_M_rankOf_36 : decode c_M_rankOf 36 = .ok (.iload 4, 2) := by decide +kernel
theorem d_M_rankOf_38 : decode c_M_rankOf 38 = .ok (.iload_n 2, 1) := by decide +kernel
theorem d_M_rankOf_39 : decode c_M_rankOf 39 = .ok (.invokevirtual 73, 3) := by decide +kernel
theorem d_M_rankOf_42 : decode c_M_rankOf 42 = .ok (.invokestatic 94, 3) := by decide +kernel
theorem d_M_rankOf_45 : decode c_M_rankOf 45 = .ok (.goto 5, 3) := by decide +kernel
theorem d_M_rankOf_48 : decode c_M_rankOf 48 = .ok (.ldc 97, 2) := by decide +kernel
theorem d_M_rankOf_50 : decode c_M_rankOf 50 = .ok (.istore 5, 2) := by decide +kernel
theorem d_M_rankOf_52 : decode c_M_rankOf 52 = .ok (.iload_n 3, 1) := by decide +kernel
theorem d_M_rankOf_53 : decode c_M_rankOf 53 = .ok (.iload 5, 2) := by decide +kernel
theorem d_M_rankOf_55 : decode c_M_rankOf 55 = .ok (.aload_n 0, 1) := by decide +kernel
theorem d_M_rankOf_56 : decode c_M_rankOf 56 = .ok (.iload_n 1, 1) := by decide +kernel
theorem d_M_rankOf_57 : decode c_M_rankOf 57 = .ok (.iload_n 2, 1) := by decide +kernel
theorem d_M_rankOf_58 : decode c_M_rankOf 58 = .ok (.invokevirtual 73, 3) := by decide +kernel
theorem d_M_rankOf_61 : decode c_M_rankOf 61 = .ok (.invokestatic 94, 3) := by decide +kernel
theorem d_M_rankOf_64 : decode c_M_rankOf 64 = .ok (.if_icmp .ge 7, 3) := by decide +kernel
theorem d_M_rankOf_67 : decode c_M_rankOf 67 = .ok (.iconst 2, 1) := by decide +kernel
theorem d_M_rankOf_68 : decode c_M_rankOf 68 = .ok (.goto 22, 3) := by decide +kernel
theorem d_M_rankOf_71 : decode c_M_rankOf 71 = .ok (.iload 5, 2) := by decide +kernel
theorem d_M_rankOf_73 : decode c_M_rankOf 73 = .ok (.aload_n 0, 1) := by decide +kernel
theorem d_M_rankOf_74 : decode c_M_rankOf 74 = .ok (.iload_n 1, 1) := by decide +kernel
theorem d_M_rankOf_75 : decode c_M_rankOf 75 = .ok (.iload_n 2, 1) := by decide +kernel
theorem d_M_rankOf_76 : decode c_M_rankOf 76 = .ok (.invokevirtual 73, 3) := by decide +kernel
theorem d_M_rankOf_79 : decode c_M_rankOf 79 = .ok (.invokestatic 94, 3) := by decide +kernel
theorem d_M_rankOf_82 : decode c_M_rankOf 82 = .ok (.if_icmp .ne 7, 3) := by decide +kernel
theorem d_M_rankOf_85 : decode c_M_rankOf 85 = .ok (.iconst 1, 1) := by decide +kernel
theorem d_M_rankOf_86 : decode c_M_rankOf 86 = .ok (.goto 4, 3) := by decide +kernel
theorem d_M_rankOf_89 : decode c_M_rankOf 89 = .ok (.iconst 0, 1) := by decide +kernel
theorem d_M_rankOf_90 : decode c_M_rankOf 90 = .ok (.iadd, 1) := by decide +kernel
theorem d_M_rankOf_91 : decode c_M_rankOf 91 = .ok (.istore_n 3, 1) := by decide +kernel
theorem d_M_rankOf_92 : decode c_M_rankOf 92 = .ok (.iinc 4 1, 3) := by decide +kernel
theorem d_M_rankOf_95 : decode c_M_rankOf 95 = .ok (.goto (-79), 3) := by decide +kernel
theorem d_M_rankOf_98 : decode c_M_rankOf 98 = .ok (.iload_n 3, 1) := by decide +kernel
theorem d_M_rankOf_99 : decode c_M_rankOf 99 = .ok (.ireturn, 1) := by decide +kernel
theorem d_M_rank_0 : decode c_M_rank 0 = .ok (.aload_n 0, 1) := by decide +kernel
theorem d_M_rank_1 : decode c_M_rank 1 = .ok (.iload_n 1, 1) := by decide +kernel
theorem d_M_rank_2 : decode c_M_rank 2 = .ok (.aload_n 0, 1) := by decide +kernel
theorem d_M_rank_3 : decode c_M_rank 3 = .ok (.getfield 70, 3) := by decide +kernel
theorem d_M_rank_6 : decode c_M_rank 6 = .ok (.invokestatic 59, 3) := by decide +kernel
theorem d_M_rank_9 : decode c_M_rank 9 = .ok (.ifCond .eq 15, 3) := by decide +kernel
theorem d_M_rank_12 : decode c_M_rank 12 = .ok (.iload_n 2, 1) := by decide +kernel
theorem d_M_rank_13 : decode c_M_rank 13 = .ok (.iconst 3, 1) := by decide +kernel
theorem d_M_rank_14 : decode c_M_rank 14 = .ok (.invokestatic 59, 3) := by decide +kernel
theorem d_M_rank_17 : decode c_M_rank 17 = .ok (.ifCond .eq 7, 3) := by decide +kernel
theorem d_M_rank_20 : decode c_M_rank 20 = .ok (.iconst 0, 1) := by decide +kernel
theorem d_M_rank_21 : decode c_M_rank 21 = .ok (.goto 4, 3) := by decide +kernel
theorem d_M_rank_24 : decode c_M_rank 24 = .ok (.iconst 1, 1) := by decide +kernel
theorem d_M_rank_25 : decode c_M_rank 25 = .ok (.putfield 55, 3) := by decide +kernel
theorem d_M_rank_28 : decode c_M_rank 28 = .ok (.aload_n 0, 1) := by decide +kernel
theorem d_M_rank_29 : decode c_M_rank 29 = .ok (.getfield 55, 3) := by decide +kernel
theorem d_M_rank_32 : decode c_M_rank 32 = .ok (.ifCond .le 7, 3) := by decide +kernel
theorem d_M_rank_35 : decode c_M_rank 35 = .ok (.iconst 0, 1) := by decide +kernel
theorem d_M_rank_36 : decode c_M_rank 36 = .ok (.goto 9, 3) := by decide +kernel
theorem d_M_rank_39 : decode c_M_rank 39 = .ok (.aload_n 0, 1) := by decide +kernel
theorem d_M_rank_40 : decode c_M_rank 40 = .ok (.iload_n 1, 1) := by decide +kernel
theorem d_M_rank_41 : decode c_M_rank 41 = .ok (.iload_n 2, 1) := by decide +kernel
theorem d_M_rank_42 : decode c_M_rank 42 = .ok (.invokevirtual 98, 3) := by decide +kernel
theorem d_M_rank_45 : decode c_M_rank 45 = .ok (.ireturn, 1) := by decide +kernel
theorem d_M_rankOdds_0 : decode c_M_rankOdds 0 = .ok (.aload_n 0, 1) := by decide +kernel
theorem d_M_rankOdds_1 : decode c_M_rankOdds 1 = .ok (.iload_n 1, 1) := by decide +kernel
theorem d_M_rankOdds_2 : decode c_M_rankOdds 2 = .ok (.iconst 3, 1) := by decide +kernel
theorem d_M_rankOdds_3 : decode c_M_rankOdds 3 = .ok (.invokestatic 59, 3) := by decide +kernel
theorem d_M_rankOdds_6 : decode c_M_rankOdds 6 = .ok (.ifCond .eq 15, 3) := by decide +kernel
theorem d_M_rankOdds_9 : decode c_M_rankOdds 9 = .ok (.iload_n 2, 1) := by decide +kernel
theorem d_M_rankOdds_10 : decode c_M_rankOdds 10 = .ok (.iconst 2, 1) := by decide +kernel
theorem d_M_rankOdds_11 : decode c_M_rankOdds 11 = .ok (.invokestatic 59, 3) := by decide +kernel
theorem d_M_rankOdds_14 : decode c_M_rankOdds 14 = .ok (.ifCond .eq 7, 3) := by decide +kernel
theorem d_M_rankOdds_17 : decode c_M_rankOdds 17 = .ok (.iconst 0, 1) := by decide +kernel
theorem d_M_rankOdds_18 : decode c_M_rankOdds 18 = .ok (.goto 4, 3) := by decide +kernel
theorem d_M_rankOdds_21 : decode c_M_rankOdds 21 = .ok (.iconst 1, 1) := by decide +kernel
theorem d_M_rankOdds_22 : decode c_M_rankOdds 22 = .ok (.putfield 55, 3) := by decide +kernel
theorem d_M_rankOdds_25 : decode c_M_rankOdds 25 = .ok (.aload_n 0, 1) := by decide +kernel
theorem d_M_rankOdds_26 : decode c_M_rankOdds 26 = .ok (.getfield 55, 3) := by decide +kernel
theorem d_M_rankOdds_29 : decode c_M_rankOdds 29 = .ok (.ifCond .le 5, 3) := by decide +kernel
theorem d_M_rankOdds_32 : decode c_M_rankOdds 32 = .ok (.lconst 0, 1) := by decide +kernel
theorem d_M_rankOdds_33 : decode c_M_rankOdds 33 = .ok (.lreturn, 1) := by decide +kernel
theorem d_M_rankOdds_34 : decode c_M_rankOdds 34 = .ok (.iconst 0, 1) := by decide +kernel
theorem d_M_rankOdds_35 : decode c_M_rankOdds 35 = .ok (.istore_n 3, 1) := by decide +kernel
theorem d_M_rankOdds_36 : decode c_M_rankOdds 36 = .ok (.iconst 0, 1) := by decide +kernel
theorem d_M_rankOdds_37 : decode c_M_rankOdds 37 = .ok (.istore 4, 2) := by decide +kernel
theorem d_M_rankOdds_39 : decode c_M_rankOdds 39 = .ok (.iconst 0, 1) := by decide +kernel
theorem d_M_rankOdds_40 : decode c_M_rankOdds 40 = .ok (.istore 5, 2) := by decide +kernel
theorem d_M_rankOdds_42 : decode c_M_rankOdds 42 = .ok (.iload 5, 2) := by decide +kernel
theorem d_M_rankOdds_44 : decode c_M_rankOdds 44 = .ok (.aload_n 0, 1) := by decide +kernel
theorem d_M_rankOdds_45 : decode c_M_rankOdds 45 = .ok (.getfield 70, 3) := by decide +kernel
theorem d_M_rankOdds_48 : decode c_M_rankOdds 48 = .ok (.if_icmp .ge 60, 3) := by decide +kernel
theorem d_M_rankOdds_51 : decode c_M_rankOdds 51 = .ok (.aload_n 0, 1) := by decide +kernel
theorem d_M_rankOdds_52 : decode c_M_rankOdds 52 = .ok (.iload 5, 2) := by decide +kernel
theorem d_M_rankOdds_54 : decode c_M_rankOdds 54 = .ok (.iload_n 1, 1) := by decide +kernel
theorem d_M_rankOdds_55 : decode c_M_rankOdds 55 = .ok (.invokevirtual 91, 3) := by decide +kernel
theorem d_M_rankOdds_58 : decode c_M_rankOdds 58 = .ok (.ifCond .eq 44, 3) := by decide +kernel
theorem d_M_rankOdds_61 : decode c_M_rankOdds 61 = .ok (.aload_n 0, 1) := by decide +kernel
theorem d_M_rankOdds_62 : decode c_M_rankOdds 62 = .ok (.getfield 41, 3) := by decide +kernel
theorem d_M_rankOdds_65 : decode c_M_rankOdds 65 = .ok (.iload_n 3, 1) := by decide +kernel
theorem d_M_rankOdds_66 : decode c_M_rankOdds 66 = .ok (.aload_n 0, 1) := by decide +kernel
theorem d_M_rankOdds_67 : decode c_M_rankOdds 67 = .ok (.iload 5, 2) := by decide +kernel
theorem d_M_rankOdds_69 : decode c_M_rankOdds 69 = .ok (.iload_n 1, 1) := by decide +kernel
theorem d_M_rankOdds_70 : decode c_M_rankOdds 70 = .ok (.invokevirtual 98, 3) := by decide +kernel
theorem d_M_rankOdds_73 : decode c_M_rankOdds 73 = .ok (.iastore, 1) := by decide +kernel
theorem d_M_rankOdds_74 : decode c_M_rankOdds 74 = .ok (.iload 4, 2) := by decide +kernel
theorem d_M_rankOdds_76 : decode c_M_rankOdds 76 = .ok (.aload_n 0, 1) := by decide +kernel
theorem d_M_rankOdds_77 : decode c_M_rankOdds 77 = .ok (.iload 5, 2) := by decide +kernel
theorem d_M_rankOdds_79 : decode c_M_rankOdds 79 = .ok (.iload_n 1, 1) := by decide +kernel
theorem d_M_rankOdds_80 : decode c_M_rankOdds 80 = .ok (.invokevirtual 73, 3) := by decide +kernel
theorem d_M_rankOdds_83 : decode c_M_rankOdds 83 = .ok (.ifCond .le 12, 3) := by decide +kernel
theorem d_M_rankOdds_86 : decode c_M_rankOdds 86 = .ok (.aload_n 0, 1) := by decide +kernel
theorem d_M_rankOdds_87 : decode c_M_rankOdds 87 = .ok (.getfield 41, 3) := by decide +kernel
theorem d_M_rankOdds_90 : decode c_M_rankOdds 90 = .ok (.iload_n 3, 1) := by decide +kernel
theorem d_M_rankOdds_91 : decode c_M_rankOdds 91 = .ok (.iaload, 1) := by decide +kernel
theorem d_M_rankOdds_92 : decode c_M_rankOdds 92 = .ok (.goto 4, 3) := by decide +kernel
theorem d_M_rankOdds_95 : decode c_M_rankOdds 95 = .ok (.iconst 0, 1) := by decide +kernel
theorem d_M_rankOdds_96 : decode c_M_rankOdds 96 = .ok (.iadd, 1) := by decide +kernel
theorem d_M_rankOdds_97 : decode c_M_rankOdds 97 = .ok (.istore 4, 2) := by decide +kernel
theorem d_M_rankOdds_99 : decode c_M_rankOdds 99 = .ok (.iinc 3 1, 3) := by decide +kernel
theorem d_M_rankOdds_102 : decode c_M_rankOdds 102 = .ok (.iinc 5 1, 3) := by decide +kernel
theorem d_M_rankOdds_105 : decode c_M_rankOdds 105 = .ok (.goto (-63), 3) := by decide +kernel
theorem d_M_rankOdds_108 : decode c_M_rankOdds 108 = .ok (.lconst 0, 1) := by decide +kernel
theorem d_M_rankOdds_109 : decode c_M_rankOdds 109 = .ok (.lstore 5, 2) := by decide +kernel
theorem d_M_rankOdds_111 : decode c_M_rankOdds 111 = .ok (.iconst 0, 1) := by decide +kernel
theorem d_M_rankOdds_112 : decode c_M_rankOdds 112 = .ok (.istore 7, 2) := by decide +kernel
theorem d_M_rankOdds_114 : decode c_M_rankOdds 114 = .ok (.iload 7, 2) := by decide +kernel
theorem d_M_rankOdds_116 : decode c_M_rankOdds 116 = .ok (.iconst 1, 1) := by decide +kernel
theorem d_M_rankOdds_117 : decode c_M_rankOdds 117 = .ok (.iload_n 3, 1) := by decide +kernel
theorem d_M_rankOdds_118 : decode c_M_rankOdds 118 = .ok (.ishl, 1) := by decide +kernel
theorem d_M_rankOdds_119 : decode c_M_rankOdds 119 = .ok (.if_icmp .ge 71, 3) := by decide +kernel
theorem d_M_rankOdds_122 : decode c_M_rankOdds 122 = .ok (.iconst 0, 1) := by decide +kernel
theorem d_M_rankOdds_123 : decode c_M_rankOdds 123 = .ok (.istore 8, 2) := by decide +kernel
theorem d_M_rankOdds_125 : decode c_M_rankOdds 125 = .ok (.iconst 0, 1) := by decide +kernel
theorem d_M_rankOdds_126 : decode c_M_rankOdds 126 = .ok (.istore 9, 2) := by decide +kernel
theorem d_M_rankOdds_128 : decode c_M_rankOdds 128 = .ok (.iload 9, 2) := by decide +kernel
theorem d_M_rankOdds_130 : decode c_M_rankOdds 130 = .ok (.iload_n 3, 1) := by decide +kernel
theorem d_M_rankOdds_131 : decode c_M_rankOdds 131 = .ok (.if_icmp .ge 36, 3) := by decide +kernel
theorem d_M_rankOdds_134 : decode c_M_rankOdds 134 = .ok (.iload 8, 2) := by decide +kernel
theorem d_M_rankOdds_136 : decode c_M_rankOdds 136 = .ok (.iload 7, 2) := by decide +kernel
theorem d_M_rankOdds_138 : decode c_M_rankOdds 138 = .ok (.iload 9, 2) := by decide +kernel
theorem d_M_rankOdds_140 : decode c_M_rankOdds 140 = .ok (.ishr, 1) := by decide +kernel
theorem d_M_rankOdds_141 : decode c_M_rankOdds 141 = .ok (.iconst 1, 1) := by decide +kernel
theorem d_M_rankOdds_142 : decode c_M_rankOdds 142 = .ok (.iand, 1) := by decide +kernel
theorem d_M_rankOdds_143 : decode c_M_rankOdds 143 = .ok (.iconst 1, 1) := by decide +kernel
theorem d_M_rankOdds_144 : decode c_M_rankOdds 144 = .ok (.if_icmp .ne 13, 3) := by decide +kernel
theorem d_M_rankOdds_147 : decode c_M_rankOdds 147 = .ok (.aload_n 0, 1) := by decide +kernel
theorem d_M_rankOdds_148 : decode c_M_rankOdds 148 = .ok (.getfield 41, 3) := by decide +kernel
theorem d_M_rankOdds_151 : decode c_M_rankOdds 151 = .ok (.iload 9, 2) := by decide +kernel
theorem d_M_rankOdds_153 : decode c_M_rankOdds 153 = .ok (.iaload, 1) := by decide +kernel
theorem d_M_rankOdds_154 : decode c_M_rankOdds 154 = .ok (.goto 4, 3) := by decide +kernel
theorem d_M_rankOdds_157 : decode c_M_rankOdds 157 = .ok (.iconst 0, 1) := by decide +kernel
theorem d_M_rankOdds_158 : decode c_M_rankOdds 158 = .ok (.iadd, 1) := by decide +kernel
theorem d_M_rankOdds_159 : decode c_M_rankOdds 159 = .ok (.istore 8, 2) := by decide +kernel
theorem d_M_rankOdds_161 : decode c_M_rankOdds 161 = .ok (.iinc 9 1, 3) := by decide +kernel
theorem d_M_rankOdds_164 : decode c_M_rankOdds 164 = .ok (.goto (-36), 3) := by decide +kernel
theorem d_M_rankOdds_167 : decode c_M_rankOdds 167 = .ok (.lload 5, 2) := by decide +kernel
theorem d_M_rankOdds_169 : decode c_M_rankOdds 169 = .ok (.iload 8, 2) := by decide +kernel
theorem d_M_rankOdds_171 : decode c_M_rankOdds 171 = .ok (.iload 4, 2) := by decide +kernel
theorem d_M_rankOdds_173 : decode c_M_rankOdds 173 = .ok (.if_icmp .gt 7, 3) := by decide +kernel
theorem d_M_rankOdds_176 : decode c_M_rankOdds 176 = .ok (.lconst 1, 1) := by decide +kernel
theorem d_M_rankOdds_177 : decode c_M_rankOdds 177 = .ok (.goto 4, 3) := by decide +kernel
theorem d_M_rankOdds_180 : decode c_M_rankOdds 180 = .ok (.lconst 0, 1) := by decide +kernel
theorem d_M_rankOdds_181 : decode c_M_rankOdds 181 = .ok (.ladd, 1) := by decide +kernel
theorem d_M_rankOdds_182 : decode c_M_rankOdds 182 = .ok (.lstore 5, 2) := by decide +kernel
theorem d_M_rankOdds_184 : decode c_M_rankOdds 184 = .ok (.iinc 7 1, 3) := by decide +kernel
theorem d_M_rankOdds_187 : decode c_M_rankOdds 187 = .ok (.goto (-73), 3) := by decide +kernel
theorem d_M_rankOdds_190 : decode c_M_rankOdds 190 = .ok (.lload 5, 2) := by decide +kernel
theorem d_M_rankOdds_192 : decode c_M_rankOdds 192 = .ok (.lconst 1, 1) := by decide +kernel
theorem d_M_rankOdds_193 : decode c_M_rankOdds 193 = .ok (.iload_n 3, 1) := by decide +kernel
theorem d_M_rankOdds_194 : decode c_M_rankOdds 194 = .ok (.lshl, 1) := by decide +kernel
theorem d_M_rankOdds_195 : decode c_M_rankOdds 195 = .ok (.iload_n 2, 1) := by decide +kernel
theorem d_M_rankOdds_196 : decode c_M_rankOdds 196 = .ok (.invokestatic 87, 3) := by decide +kernel
theorem d_M_rankOdds_199 : decode c_M_rankOdds 199 = .ok (.lreturn, 1) := by decide +kernel
theorem d_M_isBound_0 : decode c_M_isBound 0 = .ok (.iload_n 0, 1) := by decide +kernel
theorem d_M_isBound_1 : decode c_M_isBound 1 = .ok (.iconst 1, 1) := by decide +kernel
theorem d_M_isBound_2 : decode c_M_isBound 2 = .ok (.if_icmp .lt 13, 3) := by decide +kernel
theorem d_M_isBound_5 : decode c_M_isBound 5 = .ok (.iload_n 0, 1) := by decide +kernel
theorem d_M_isBound_6 : decode c_M_isBound 6 = .ok (.bipush 16, 2) := by decide +kernel
theorem d_M_isBound_8 : decode c_M_isBound 8 = .ok (.if_icmp .gt 7, 3) := by decide +kernel
theorem d_M_isBound_11 : decode c_M_isBound 11 = .ok (.iconst 1, 1) := by decide +kernel
theorem d_M_isBound_12 : decode c_M_isBound 12 = .ok (.goto 4, 3) := by decide +kernel
theorem d_M_isBound_15 : decode c_M_isBound 15 = .ok (.iconst 0, 1) := by decide +kernel
theorem d_M_isBound_16 : decode c_M_isBound 16 = .ok (.ireturn, 1) := by decide +kernel
theorem d_M_stopped_0 : decode c_M_stopped 0 = .ok (.aload_n 0, 1) := by decide +kernel
theorem d_M_stopped_1 : decode c_M_stopped 1 = .ok (.iload_n 1, 1) := by decide +kernel
theorem d_M_stopped_2 : decode c_M_stopped 2 = .ok (.iconst 3, 1) := by decide +kernel
theorem d_M_stopped_3 : decode c_M_stopped 3 = .ok (.invokestatic 59, 3) := by decide +kernel
theorem d_M_stopped_6 : decode c_M_stopped 6 = .ok (.ifCond .ne 7, 3) := by decide +kernel
theorem d_M_stopped_9 : decode c_M_stopped 9 = .ok (.iconst 1, 1) := by decide +kernel
theorem d_M_stopped_10 : decode c_M_stopped 10 = .ok (.goto 22, 3) := by decide +kernel
theorem d_M_stopped_13 : decode c_M_stopped 13 = .ok (.iload_n 2, 1) := by decide +kernel
theorem d_M_stopped_14 : decode c_M_stopped 14 = .ok (.invokestatic 101, 3) := by decide +kernel
theorem d_M_stopped_17 : decode c_M_stopped 17 = .ok (.ifCond .eq 10, 3) := by decide +kernel
theorem d_M_stopped_20 : decode c_M_stopped 20 = .ok (.iload_n 3, 1) := by decide +kernel
theorem d_M_stopped_21 : decode c_M_stopped 21 = .ok (.invokestatic 101, 3) := by decide +kernel
theorem d_M_stopped_24 : decode c_M_stopped 24 = .ok (.ifCond .ne 7, 3) := by decide +kernel
theorem d_M_stopped_27 : decode c_M_stopped 27 = .ok (.iconst 2, 1) := by decide +kernel
theorem d_M_stopped_28 : decode c_M_stopped 28 = .ok (.goto 4, 3) := by decide +kernel
theorem d_M_stopped_31 : decode c_M_stopped 31 = .ok (.iconst 0, 1) := by decide +kernel
theorem d_M_stopped_32 : decode c_M_stopped 32 = .ok (.putfield 55, 3) := by decide +kernel
theorem d_M_stopped_35 : decode c_M_stopped 35 = .ok (.iconst 0, 1) := by decide +kernel
theorem d_M_stopped_36 : decode c_M_stopped 36 = .ok (.istore 4, 2) := by decide +kernel
theorem d_M_stopped_38 : decode c_M_stopped 38 = .ok (.iconst 0, 1) := by decide +kernel
theorem d_M_stopped_39 : decode c_M_stopped 39 = .ok (.istore 5, 2) := by decide +kernel
theorem d_M_stopped_41 : decode c_M_stopped 41 = .ok (.iload 5, 2) := by decide +kernel
theorem d_M_stopped_43 : decode c_M_stopped 43 = .ok (.aload_n 0, 1) := by decide +kernel
theorem d_M_stopped_44 : decode c_M_stopped 44 = .ok (.getfield 70, 3) := by decide +kernel
theorem d_M_stopped_47 : decode c_M_stopped 47 = .ok (.if_icmp .ge 87, 3) := by decide +kernel
theorem d_M_stopped_50 : decode c_M_stopped 50 = .ok (.aload_n 0, 1) := by decide +kernel
theorem d_M_stopped_51 : decode c_M_stopped 51 = .ok (.getfield 55, 3) := by decide +kernel
theorem d_M_stopped_54 : decode c_M_stopped 54 = .ok (.ifCond .ne 80, 3) := by decide +kernel
theorem d_M_stopped_57 : decode c_M_stopped 57 = .ok (.aload_n 0, 1) := by decide +kernel
theorem d_M_stopped_58 : decode c_M_stopped 58 = .ok (.iload 5, 2) := by decide +kernel
theorem d_M_stopped_60 : decode c_M_stopped 60 = .ok (.iload_n 1, 1) := by decide +kernel
theorem d_M_stopped_61 : decode c_M_stopped 61 = .ok (.invokevirtual 77, 3) := by decide +kernel
theorem d_M_stopped_64 : decode c_M_stopped 64 = .ok (.ifCond .ne 6, 3) := by decide +kernel
theorem d_M_stopped_67 : decode c_M_stopped 67 = .ok (.goto 61, 3) := by decide +kernel
theorem d_M_stopped_70 : decode c_M_stopped 70 = .ok (.aload_n 0, 1) := by decide +kernel
theorem d_M_stopped_71 : decode c_M_stopped 71 = .ok (.iload 5, 2) := by decide +kernel
theorem d_M_stopped_73 : decode c_M_stopped 73 = .ok (.iload_n 1, 1) := by decide +kernel
theorem d_M_stopped_74 : decode c_M_stopped 74 = .ok (.invokevirtual 73, 3) := by decide +kernel
theorem d_M_stopped_77 : decode c_M_stopped 77 = .ok (.istore 6, 2) := by decide +kernel
theorem d_M_stopped_79 : decode c_M_stopped 79 = .ok (.iload 4, 2) := by decide +kernel
theorem d_M_stopped_81 : decode c_M_stopped 81 = .ok (.iload 6, 2) := by decide +kernel
theorem d_M_stopped_83 : decode c_M_stopped 83 = .ok (.ifCond .ge 7, 3) := by decide +kernel
theorem d_M_stopped_86 : decode c_M_stopped 86 = .ok (.iconst 1, 1) := by decide +kernel
theorem d_M_stopped_87 : decode c_M_stopped 87 = .ok (.goto 13, 3) := by decide +kernel
theorem d_M_stopped_90 : decode c_M_stopped 90 = .ok (.iload 6, 2) := by decide +kernel
theorem d_M_stopped_92 : decode c_M_stopped 92 = .ok (.ifCond .le 7, 3) := by decide +kernel
theorem d_M_stopped_95 : decode c_M_stopped 95 = .ok (.iconst (-1), 1) := by decide +kernel
theorem d_M_stopped_96 : decode c_M_stopped 96 = .ok (.goto 4, 3) := by decide +kernel
theorem d_M_stopped_99 : decode c_M_stopped 99 = .ok (.iconst 0, 1) := by decide +kernel
theorem d_M_stopped_100 : decode c_M_stopped 100 = .ok (.iadd, 1) := by decide +kernel
theorem d_M_stopped_101 : decode c_M_stopped 101 = .ok (.istore 4, 2) := by decide +kernel
theorem d_M_stopped_103 : decode c_M_stopped 103 = .ok (.iload 4, 2) := by decide +kernel
theorem d_M_stopped_105 : decode c_M_stopped 105 = .ok (.iload_n 2, 1) := by decide +kernel
theorem d_M_stopped_106 : decode c_M_stopped 106 = .ok (.if_icmp .ne 8, 3) := by decide +kernel
theorem d_M_stopped_109 : decode c_M_stopped 109 = .ok (.iconst 2, 1) := by decide +kernel
theorem d_M_stopped_110 : decode c_M_stopped 110 = .ok (.iload 5, 2) := by decide +kernel
theorem d_M_stopped_112 : decode c_M_stopped 112 = .ok (.imul, 1) := by decide +kernel
theorem d_M_stopped_113 : decode c_M_stopped 113 = .ok (.ireturn, 1) := by decide +kernel
theorem d_M_stopped_114 : decode c_M_stopped 114 = .ok (.iload 4, 2) := by decide +kernel
theorem d_M_stopped_116 : decode c_M_stopped 116 = .ok (.iload_n 3, 1) := by decide +kernel
theorem d_M_stopped_117 : decode c_M_stopped 117 = .ok (.ineg, 1) := by decide +kernel
theorem d_M_stopped_118 : decode c_M_stopped 118 = .ok (.if_icmp .ne 10, 3) := by decide +kernel
theorem d_M_stopped_121 : decode c_M_stopped 121 = .ok (.iconst 2, 1) := by decide +kernel
theorem d_M_stopped_122 : decode c_M_stopped 122 = .ok (.iload 5, 2) := by decide +kernel
theorem d_M_stopped_124 : decode c_M_stopped 124 = .ok (.imul, 1) := by decide +kernel
theorem d_M_stopped_125 : decode c_M_stopped 125 = .ok (.iconst 1, 1) := by decide +kernel
theorem d_M_stopped_126 : decode c_M_stopped 126 = .ok (.iadd, 1) := by decide +kernel
theorem d_M_stopped_127 : decode c_M_stopped 127 = .ok (.ireturn, 1) := by decide +kernel
theorem d_M_stopped_128 : decode c_M_stopped 128 = .ok (.iinc 5 1, 3) := by decide +kernel
theorem d_M_stopped_131 : decode c_M_stopped 131 = .ok (.goto (-90), 3) := by decide +kernel
theorem d_M_stopped_134 : decode c_M_stopped 134 = .ok (.aload_n 0, 1) := by decide +kernel
theorem d_M_stopped_135 : decode c_M_stopped 135 = .ok (.getfield 55, 3) := by decide +kernel
theorem d_M_stopped_138 : decode c_M_stopped 138 = .ok (.ifCond .le 7, 3) := by decide +kernel
theorem d_M_stopped_141 : decode c_M_stopped 141 = .ok (.iconst 0, 1) := by decide +kernel
theorem d_M_stopped_142 : decode c_M_stopped 142 = .ok (.goto 4, 3) := by decide +kernel
theorem d_M_stopped_145 : decode c_M_stopped 145 = .ok (.iconst (-1), 1) := by decide +kernel
theorem d_M_stopped_146 : decode c_M_stopped 146 = .ok (.ireturn, 1) := by decide +kernel
theorem d_M_cross_0 : decode c_M_cross 0 = .ok (.iconst 0, 1) := by decide +kernel
theorem d_M_cross_1 : decode c_M_cross 1 = .ok (.istore 4, 2) := by decide +kernel
theorem d_M_cross_3 : decode c_M_cross 3 = .ok (.iload 4, 2) := by decide +kernel
theorem d_M_cross_5 : decode c_M_cross 5 = .ok (.bipush 35, 2) := by decide +kernel
theorem d_M_cross_7 : decode c_M_cross 7 = .ok (.if_icmp .ge 28, 3) := by decide +kernel
theorem d_M_cross_10 : decode c_M_cross 10 = .ok (.aload_n 0, 1) := by decide +kernel
theorem d_M_cross_11 : decode c_M_cross 11 = .ok (.getfield 44, 3) := by decide +kernel
theorem d_M_cross_14 : decode c_M_cross 14 = .ok (.iload 4, 2) := by decide +kernel
theorem d_M_cross_16 : decode c_M_cross 16 = .ok (.iload 4, 2) := by decide +kernel
theorem d_M_cross_18 : decode c_M_cross 18 = .ok (.bipush 17, 2) := by decide +kernel
theorem d_M_cross_20 : decode c_M_cross 20 = .ok (.if_icmp .ne 7, 3) := by decide +kernel
theorem d_M_cross_23 : decode c_M_cross 23 = .ok (.lconst 1, 1) := by decide +kernel
theorem d_M_cross_24 : decode c_M_cross 24 = .ok (.goto 4, 3) := by decide +kernel
theorem d_M_cross_27 : decode c_M_cross 27 = .ok (.lconst 0, 1) := by decide +kernel
theorem d_M_cross_28 : decode c_M_cross 28 = .ok (.lastore, 1) := by decide +kernel
theorem d_M_cross_29 : decode c_M_cross 29 = .ok (.iinc 4 1, 3) := by decide +kernel
theorem d_M_cross_32 : decode c_M_cross 32 = .ok (.goto (-29), 3) := by decide +kernel
theorem d_M_cross_35 : decode c_M_cross 35 = .ok (.lconst 0, 1) := by decide +kernel
theorem d_M_cross_36 : decode c_M_cross 36 = .ok (.lstore 4, 2) := by decide +kernel
theorem d_M_cross_38 : decode c_M_cross 38 = .ok (.iconst 1, 1) := by decide +kernel
theorem d_M_cross_39 : decode c_M_cross 39 = .ok (.istore 6, 2) := by decide +kernel
theorem d_M_cross_41 : decode c_M_cross 41 = .ok (.iload 6, 2) := by decide +kernel
theorem d_M_cross_43 : decode c_M_cross 43 = .ok (.iload_n 1, 1) := by decide +kernel
theorem d_M_cross_44 : decode c_M_cross 44 = .ok (.if_icmp .gt 143, 3) := by decide +kernel
theorem d_M_cross_47 : decode c_M_cross 47 = .ok (.iconst 1, 1) := by decide +kernel
theorem d_M_cross_48 : decode c_M_cross 48 = .ok (.istore 7, 2) := by decide +kernel
theorem d_M_cross_50 : decode c_M_cross 50 = .ok (.iload 7, 2) := by decide +kernel
theorem d_M_cross_52 : decode c_M_cross 52 = .ok (.bipush 34, 2) := by decide +kernel
theorem d_M_cross_54 : decode c_M_cross 54 = .ok (.if_icmp .ge 35, 3) := by decide +kernel
theorem d_M_cross_57 : decode c_M_cross 57 = .ok (.aload_n 0, 1) := by decide +kernel
theorem d_M_cross_58 : decode c_M_cross 58 = .ok (.getfield 48, 3) := by decide +kernel
theorem d_M_cross_61 : decode c_M_cross 61 = .ok (.iload 7, 2) := by decide +kernel
theorem d_M_cross_63 : decode c_M_cross 63 = .ok (.aload_n 0, 1) := by decide +kernel
theorem d_M_cross_64 : decode c_M_cross 64 = .ok (.getfield 44, 3) := by decide +kernel
theorem d_M_cross_67 : decode c_M_cross 67 = .ok (.iload 7, 2) := by decide +kernel
theorem d_M_cross_69 : decode c_M_cross 69 = .ok (.iconst 1, 1) := by decide +kernel
theorem d_M_cross_70 : decode c_M_cross 70 = .ok (.isub, 1) := by decide +kernel
theorem d_M_cross_71 : decode c_M_cross 71 = .ok (.laload, 1) := by decide +kernel
theorem d_M_cross_72 : decode c_M_cross 72 = .ok (.aload_n 0, 1) := by decide +kernel
theorem d_M_cross_73 : decode c_M_cross 73 = .ok (.getfield 44, 3) := by decide +kernel
theorem d_M_cross_76 : decode c_M_cross 76 = .ok (.iload 7, 2) := by decide +kernel
theorem d_M_cross_78 : decode c_M_cross 78 = .ok (.iconst 1, 1) := by decide +kernel
theorem d_M_cross_79 : decode c_M_cross 79 = .ok (.iadd, 1) := by decide +kernel
theorem d_M_cross_80 : decode c_M_cross 80 = .ok (.laload, 1) := by decide +kernel
theorem d_M_cross_81 : decode c_M_cross 81 = .ok (.ladd, 1) := by decide +kernel
theorem d_M_cross_82 : decode c_M_cross 82 = .ok (.lastore, 1) := by decide +kernel
theorem d_M_cross_83 : decode c_M_cross 83 = .ok (.iinc 7 1, 3) := by decide +kernel
theorem d_M_cross_86 : decode c_M_cross 86 = .ok (.goto (-36), 3) := by decide +kernel
theorem d_M_cross_89 : decode c_M_cross 89 = .ok (.lload 4, 2) := by decide +kernel
theorem d_M_cross_91 : decode c_M_cross 91 = .ok (.aload_n 0, 1) := by decide +kernel
theorem d_M_cross_92 : decode c_M_cross 92 = .ok (.getfield 48, 3) := by decide +kernel
theorem d_M_cross_95 : decode c_M_cross 95 = .ok (.bipush 17, 2) := by decide +kernel
theorem d_M_cross_97 : decode c_M_cross 97 = .ok (.iload_n 2, 1) := by decide +kernel
theorem d_M_cross_98 : decode c_M_cross 98 = .ok (.iadd, 1) := by decide +kernel
theorem d_M_cross_99 : decode c_M_cross 99 = .ok (.laload, 1) := by decide +kernel
theorem d_M_cross_100 : decode c_M_cross 100 = .ok (.iload_n 1, 1) := by decide +kernel
theorem d_M_cross_101 : decode c_M_cross 101 = .ok (.iload 6, 2) := by decide +kernel
theorem d_M_cross_103 : decode c_M_cross 103 = .ok (.isub, 1) := by decide +kernel
theorem d_M_cross_104 : decode c_M_cross 104 = .ok (.lshl, 1) := by decide +kernel
theorem d_M_cross_105 : decode c_M_cross 105 = .ok (.ladd, 1) := by decide +kernel
theorem d_M_cross_106 : decode c_M_cross 106 = .ok (.lstore 4, 2) := by decide +kernel
theorem d_M_cross_108 : decode c_M_cross 108 = .ok (.aload_n 0, 1) := by decide +kernel
theorem d_M_cross_109 : decode c_M_cross 109 = .ok (.getfield 48, 3) := by decide +kernel
theorem d_M_cross_112 : decode c_M_cross 112 = .ok (.bipush 17, 2) := by decide +kernel
theorem d_M_cross_114 : decode c_M_cross 114 = .ok (.iload_n 2, 1) := by decide +kernel
theorem d_M_cross_115 : decode c_M_cross 115 = .ok (.iadd, 1) := by decide +kernel
theorem d_M_cross_116 : decode c_M_cross 116 = .ok (.lconst 0, 1) := by decide +kernel
theorem d_M_cross_117 : decode c_M_cross 117 = .ok (.lastore, 1) := by decide +kernel
theorem d_M_cross_118 : decode c_M_cross 118 = .ok (.aload_n 0, 1) := by decide +kernel
theorem d_M_cross_119 : decode c_M_cross 119 = .ok (.getfield 48, 3) := by decide +kernel
theorem d_M_cross_122 : decode c_M_cross 122 = .ok (.bipush 17, 2) := by decide +kernel
theorem d_M_cross_124 : decode c_M_cross 124 = .ok (.iload_n 3, 1) := by decide +kernel
theorem d_M_cross_125 : decode c_M_cross 125 = .ok (.isub, 1) := by decide +kernel
theorem d_M_cross_126 : decode c_M_cross 126 = .ok (.lconst 0, 1) := by decide +kernel
theorem d_M_cross_127 : decode c_M_cross 127 = .ok (.lastore, 1) := by decide +kernel
theorem d_M_cross_128 : decode c_M_cross 128 = .ok (.iconst 1, 1) := by decide +kernel
theorem d_M_cross_129 : decode c_M_cross 129 = .ok (.istore 7, 2) := by decide +kernel
theorem d_M_cross_131 : decode c_M_cross 131 = .ok (.iload 7, 2) := by decide +kernel
theorem d_M_cross_133 : decode c_M_cross 133 = .ok (.bipush 34, 2) := by decide +kernel
theorem d_M_cross_135 : decode c_M_cross 135 = .ok (.if_icmp .ge 46, 3) := by decide +kernel
theorem d_M_cross_138 : decode c_M_cross 138 = .ok (.aload_n 0, 1) := by decide +kernel
theorem d_M_cross_139 : decode c_M_cross 139 = .ok (.getfield 44, 3) := by decide +kernel
theorem d_M_cross_142 : decode c_M_cross 142 = .ok (.iload 7, 2) := by decide +kernel
theorem d_M_cross_144 : decode c_M_cross 144 = .ok (.iload 7, 2) := by decide +kernel
theorem d_M_cross_146 : decode c_M_cross 146 = .ok (.bipush 17, 2) := by decide +kernel
theorem d_M_cross_148 : decode c_M_cross 148 = .ok (.isub, 1) := by decide +kernel
theorem d_M_cross_149 : decode c_M_cross 149 = .ok (.iload_n 2, 1) := by decide +kernel
theorem d_M_cross_150 : decode c_M_cross 150 = .ok (.if_icmp .ge 23, 3) := by decide +kernel
theorem d_M_cross_153 : decode c_M_cross 153 = .ok (.iload 7, 2) := by decide +kernel
theorem d_M_cross_155 : decode c_M_cross 155 = .ok (.bipush 17, 2) := by decide +kernel
theorem d_M_cross_157 : decode c_M_cross 157 = .ok (.isub, 1) := by decide +kernel
theorem d_M_cross_158 : decode c_M_cross 158 = .ok (.iload_n 3, 1) := by decide +kernel
theorem d_M_cross_159 : decode c_M_cross 159 = .ok (.ineg, 1) := by decide +kernel
theorem d_M_cross_160 : decode c_M_cross 160 = .ok (.if_icmp .le 13, 3) := by decide +kernel
theorem d_M_cross_163 : decode c_M_cross 163 = .ok (.aload_n 0, 1) := by decide +kernel
theorem d_M_cross_164 : decode c_M_cross 164 = .ok (.getfield 48, 3) := by decide +kernel
theorem d_M_cross_167 : decode c_M_cross 167 = .ok (.iload 7, 2) := by decide +kernel
theorem d_M_cross_169 : decode c_M_cross 169 = .ok (.laload, 1) := by decide +kernel
theorem d_M_cross_170 : decode c_M_cross 170 = .ok (.goto 4, 3) := by decide +kernel
theorem d_M_cross_173 : decode c_M_cross 173 = .ok (.lconst 0, 1) := by decide +kernel
theorem d_M_cross_174 : decode c_M_cross 174 = .ok (.lastore, 1) := by decide +kernel
theorem d_M_cross_175 : decode c_M_cross 175 = .ok (.iinc 7 1, 3) := by decide +kernel
theorem d_M_cross_178 : decode c_M_cross 178 = .ok (.goto (-47), 3) := by decide +kernel
theorem d_M_cross_181 : decode c_M_cross 181 = .ok (.iinc 6 1, 3) := by decide +kernel
theorem d_M_cross_184 : decode c_M_cross 184 = .ok (.goto (-143), 3) := by decide +kernel
theorem d_M_cross_187 : decode c_M_cross 187 = .ok (.lload 4, 2) := by decide +kernel
theorem d_M_cross_189 : decode c_M_cross 189 = .ok (.lreturn, 1) := by decide +kernel
theorem d_M_crossing_0 : decode c_M_crossing 0 = .ok (.aload_n 0, 1) := by decide +kernel
theorem d_M_crossing_1 : decode c_M_crossing 1 = .ok (.iload 4, 2) := by decide +kernel
theorem d_M_crossing_3 : decode c_M_crossing 3 = .ok (.iconst 2, 1) := by decide +kernel
theorem d_M_crossing_4 : decode c_M_crossing 4 = .ok (.invokestatic 59, 3) := by decide +kernel
theorem d_M_crossing_7 : decode c_M_crossing 7 = .ok (.ifCond .ne 7, 3) := by decide +kernel
theorem d_M_crossing_10 : decode c_M_crossing 10 = .ok (.iconst 1, 1) := by decide +kernel
theorem d_M_crossing_11 : decode c_M_crossing 11 = .ok (.goto 32, 3) := by decide +kernel
theorem d_M_crossing_14 : decode c_M_crossing 14 = .ok (.iload_n 1, 1) := by decide +kernel
theorem d_M_crossing_15 : decode c_M_crossing 15 = .ok (.ifCond .lt 23, 3) := by decide +kernel
theorem d_M_crossing_18 : decode c_M_crossing 18 = .ok (.iload_n 1, 1) := by decide +kernel
theorem d_M_crossing_19 : decode c_M_crossing 19 = .ok (.bipush 40, 2) := by decide +kernel
theorem d_M_crossing_21 : decode c_M_crossing 21 = .ok (.if_icmp .gt 17, 3) := by decide +kernel
theorem d_M_crossing_24 : decode c_M_crossing 24 = .ok (.iload_n 2, 1) := by decide +kernel
theorem d_M_crossing_25 : decode c_M_crossing 25 = .ok (.invokestatic 101, 3) := by decide +kernel
theorem d_M_crossing_28 : decode c_M_crossing 28 = .ok (.ifCond .eq 10, 3) := by decide +kernel
theorem d_M_crossing_31 : decode c_M_crossing 31 = .ok (.iload_n 3, 1) := by decide +kernel
theorem d_M_crossing_32 : decode c_M_crossing 32 = .ok (.invokestatic 101, 3) := by decide +kernel
theorem d_M_crossing_35 : decode c_M_crossing 35 = .ok (.ifCond .ne 7, 3) := by decide +kernel
theorem d_M_crossing_38 : decode c_M_crossing 38 = .ok (.iconst 2, 1) := by decide +kernel
theorem d_M_crossing_39 : decode c_M_crossing 39 = .ok (.goto 4, 3) := by decide +kernel
theorem d_M_crossing_42 : decode c_M_crossing 42 = .ok (.iconst 0, 1) := by decide +kernel
theorem d_M_crossing_43 : decode c_M_crossing 43 = .ok (.putfield 55, 3) := by decide +kernel
theorem d_M_crossing_46 : decode c_M_crossing 46 = .ok (.aload_n 0, 1) := by decide +kernel
theorem d_M_crossing_47 : decode c_M_crossing 47 = .ok (.getfield 55, 3) := by decide +kernel
theorem d_M_crossing_50 : decode c_M_crossing 50 = .ok (.ifCond .le 7, 3) := by decide +kernel
theorem d_M_crossing_53 : decode c_M_crossing 53 = .ok (.lconst 0, 1) := by decide +kernel
theorem d_M_crossing_54 : decode c_M_crossing 54 = .ok (.goto 18, 3) := by decide +kernel
theorem d_M_crossing_57 : decode c_M_crossing 57 = .ok (.aload_n 0, 1) := by decide +kernel
theorem d_M_crossing_58 : decode c_M_crossing 58 = .ok (.iload_n 1, 1) := by decide +kernel
theorem d_M_crossing_59 : decode c_M_crossing 59 = .ok (.iload_n 2, 1) := by decide +kernel
theorem d_M_crossing_60 : decode c_M_crossing 60 = .ok (.iload_n 3, 1) := by decide +kernel
theorem d_M_crossing_61 : decode c_M_crossing 61 = .ok (.invokevirtual 105, 3) := by decide +kernel
theorem d_M_crossing_64 : decode c_M_crossing 64 = .ok (.lconst 1, 1) := by decide +kernel
theorem d_M_crossing_65 : decode c_M_crossing 65 = .ok (.iload_n 1, 1) := by decide +kernel
theorem d_M_crossing_66 : decode c_M_crossing 66 = .ok (.lshl, 1) := by decide +kernel
theorem d_M_crossing_67 : decode c_M_crossing 67 = .ok (.iload 4, 2) := by decide +kernel
theorem d_M_crossing_69 : decode c_M_crossing 69 = .ok (.invokestatic 87, 3) := by decide +kernel
theorem d_M_crossing_72 : decode c_M_crossing 72 = .ok (.lreturn, 1) := by decide +kernel
theorem d_M_least_0 : decode c_M_least 0 = .ok (.aload_n 0, 1) := by decide +kernel
theorem d_M_least_1 : decode c_M_least 1 = .ok (.iload 4, 2) := by decide +kernel
theorem d_M_least_3 : decode c_M_least 3 = .ok (.iconst 1, 1) := by decide +kernel
theorem d_M_least_4 : decode c_M_least 4 = .ok (.if_icmp .lt 35, 3) := by decide +kernel
theorem d_M_least_7 : decode c_M_least 7 = .ok (.iload 4, 2) := by decide +kernel
theorem d_M_least_9 : decode c_M_least 9 = .ok (.sipush 1000, 3) := by decide +kernel
theorem d_M_least_12 : decode c_M_least 12 = .ok (.if_icmp .gt 27, 3) := by decide +kernel
theorem d_M_least_15 : decode c_M_least 15 = .ok (.iload_n 3, 1) := by decide +kernel
theorem d_M_least_16 : decode c_M_least 16 = .ok (.ifCond .lt 23, 3) := by decide +kernel
theorem d_M_least_19 : decode c_M_least 19 = .ok (.iload_n 3, 1) := by decide +kernel
theorem d_M_least_20 : decode c_M_least 20 = .ok (.iload 4, 2) := by decide +kernel
theorem d_M_least_22 : decode c_M_least 22 = .ok (.if_icmp .gt 17, 3) := by decide +kernel
theorem d_M_least_25 : decode c_M_least 25 = .ok (.iload_n 1, 1) := by decide +kernel
theorem d_M_least_26 : decode c_M_least 26 = .ok (.invokestatic 101, 3) := by decide +kernel
theorem d_M_least_29 : decode c_M_least 29 = .ok (.ifCond .eq 10, 3) := by decide +kernel
theorem d_M_least_32 : decode c_M_least 32 = .ok (.iload_n 2, 1) := by decide +kernel
theorem d_M_least_33 : decode c_M_least 33 = .ok (.invokestatic 101, 3) := by decide +kernel
theorem d_M_least_36 : decode c_M_least 36 = .ok (.ifCond .ne 7, 3) := by decide +kernel
theorem d_M_least_39 : decode c_M_least 39 = .ok (.iconst 1, 1) := by decide +kernel
theorem d_M_least_40 : decode c_M_least 40 = .ok (.goto 4, 3) := by decide +kernel
theorem d_M_least_43 : decode c_M_least 43 = .ok (.iconst 0, 1) := by decide +kernel
theorem d_M_least_44 : decode c_M_least 44 = .ok (.putfield 55, 3) := by decide +kernel
theorem d_M_least_47 : decode c_M_least 47 = .ok (.iconst 0, 1) := by decide +kernel
theorem d_M_least_48 : decode c_M_least 48 = .ok (.istore 5, 2) := by decide +kernel
theorem d_M_least_50 : decode c_M_least 50 = .ok (.iload 5, 2) := by decide +kernel
theorem d_M_least_52 : decode c_M_least 52 = .ok (.bipush 40, 2) := by decide +kernel
theorem d_M_least_54 : decode c_M_least 54 = .ok (.if_icmp .gt 40, 3) := by decide +kernel
theorem d_M_least_57 : decode c_M_least 57 = .ok (.aload_n 0, 1) := by decide +kernel
theorem d_M_least_58 : decode c_M_least 58 = .ok (.getfield 55, 3) := by decide +kernel
theorem d_M_least_61 : decode c_M_least 61 = .ok (.ifCond .ne 33, 3) := by decide +kernel
theorem d_M_least_64 : decode c_M_least 64 = .ok (.aload_n 0, 1) := by decide +kernel
theorem d_M_least_65 : decode c_M_least 65 = .ok (.iload 5, 2) := by decide +kernel
theorem d_M_least_67 : decode c_M_least 67 = .ok (.iload_n 1, 1) := by decide +kernel
theorem d_M_least_68 : decode c_M_least 68 = .ok (.iload_n 2, 1) := by decide +kernel
theorem d_M_least_69 : decode c_M_least 69 = .ok (.invokevirtual 105, 3) := by decide +kernel
theorem d_M_least_72 : decode c_M_least 72 = .ok (.iload 4, 2) := by decide +kernel
theorem d_M_least_74 : decode c_M_least 74 = .ok (.i2l, 1) := by decide +kernel
theorem d_M_least_75 : decode c_M_least 75 = .ok (.lmul, 1) := by decide +kernel
theorem d_M_least_76 : decode c_M_least 76 = .ok (.iload_n 3, 1) := by decide +kernel
theorem d_M_least_77 : decode c_M_least 77 = .ok (.i2l, 1) := by decide +kernel
theorem d_M_least_78 : decode c_M_least 78 = .ok (.iload 5, 2) := by decide +kernel
theorem d_M_least_80 : decode c_M_least 80 = .ok (.lshl, 1) := by decide +kernel
theorem d_M_least_81 : decode c_M_least 81 = .ok (.lcmp, 1) := by decide +kernel
theorem d_M_least_82 : decode c_M_least 82 = .ok (.ifCond .lt 6, 3) := by decide +kernel
theorem d_M_least_85 : decode c_M_least 85 = .ok (.iload 5, 2) := by decide +kernel
theorem d_M_least_87 : decode c_M_least 87 = .ok (.ireturn, 1) := by decide +kernel
theorem d_M_least_88 : decode c_M_least 88 = .ok (.iinc 5 1, 3) := by decide +kernel
theorem d_M_least_91 : decode c_M_least 91 = .ok (.goto (-41), 3) := by decide +kernel
theorem d_M_least_94 : decode c_M_least 94 = .ok (.aload_n 0, 1) := by decide +kernel
theorem d_M_least_95 : decode c_M_least 95 = .ok (.getfield 55, 3) := by decide +kernel
theorem d_M_least_98 : decode c_M_least 98 = .ok (.ifCond .le 7, 3) := by decide +kernel
theorem d_M_least_101 : decode c_M_least 101 = .ok (.iconst 0, 1) := by decide +kernel
theorem d_M_least_102 : decode c_M_least 102 = .ok (.goto 4, 3) := by decide +kernel
theorem d_M_least_105 : decode c_M_least 105 = .ok (.iconst (-1), 1) := by decide +kernel
theorem d_M_least_106 : decode c_M_least 106 = .ok (.ireturn, 1) := by decide +kernel
theorem d_M_keptOfShip_0 : decode c_M_keptOfShip 0 = .ok (.iconst 0, 1) := by decide +kernel
theorem d_M_keptOfShip_1 : decode c_M_keptOfShip 1 = .ok (.istore_n 3, 1) := by decide +kernel
theorem d_M_keptOfShip_2 : decode c_M_keptOfShip 2 = .ok (.iconst 0, 1) := by decide +kernel
theorem d_M_keptOfShip_3 : decode c_M_keptOfShip 3 = .ok (.istore 4, 2) := by decide +kernel
theorem d_M_keptOfShip_5 : decode c_M_keptOfShip 5 = .ok (.iload 4, 2) := by decide +kernel
theorem d_M_keptOfShip_7 : decode c_M_keptOfShip 7 = .ok (.aload_n 0, 1) := by decide +kernel
theorem d_M_keptOfShip_8 : decode c_M_keptOfShip 8 = .ok (.getfield 70, 3) := by decide +kernel
theorem d_M_keptOfShip_11 : decode c_M_keptOfShip 11 = .ok (.if_icmp .ge 43, 3) := by decide +kernel
theorem d_M_keptOfShip_14 : decode c_M_keptOfShip 14 = .ok (.iload_n 3, 1) := by decide +kernel
theorem d_M_keptOfShip_15 : decode c_M_keptOfShip 15 = .ok (.aload_n 0, 1) := by decide +kernel
theorem d_M_keptOfShip_16 : decode c_M_keptOfShip 16 = .ok (.getfield 7, 3) := by decide +kernel
theorem d_M_keptOfShip_19 : decode c_M_keptOfShip 19 = .ok (.aload_n 0, 1) := by decide +kernel
theorem d_M_keptOfShip_20 : decode c_M_keptOfShip 20 = .ok (.getfield 26, 3) := by decide +kernel
theorem d_M_keptOfShip_23 : decode c_M_keptOfShip 23 = .ok (.iload 4, 2) := by decide +kernel
theorem d_M_keptOfShip_25 : decode c_M_keptOfShip 25 = .ok (.iaload, 1) := by decide +kernel
theorem d_M_keptOfShip_26 : decode c_M_keptOfShip 26 = .ok (.iaload, 1) := by decide +kernel
theorem d_M_keptOfShip_27 : decode c_M_keptOfShip 27 = .ok (.iload_n 1, 1) := by decide +kernel
theorem d_M_keptOfShip_28 : decode c_M_keptOfShip 28 = .ok (.if_icmp .ne 17, 3) := by decide +kernel
theorem d_M_keptOfShip_31 : decode c_M_keptOfShip 31 = .ok (.aload_n 0, 1) := by decide +kernel
theorem d_M_keptOfShip_32 : decode c_M_keptOfShip 32 = .ok (.iload 4, 2) := by decide +kernel
theorem d_M_keptOfShip_34 : decode c_M_keptOfShip 34 = .ok (.iload_n 2, 1) := by decide +kernel
theorem d_M_keptOfShip_35 : decode c_M_keptOfShip 35 = .ok (.invokevirtual 77, 3) := by decide +kernel
theorem d_M_keptOfShip_38 : decode c_M_keptOfShip 38 = .ok (.ifCond .eq 7, 3) := by decide +kernel
theorem d_M_keptOfShip_41 : decode c_M_keptOfShip 41 = .ok (.iconst 1, 1) := by decide +kernel
theorem d_M_keptOfShip_42 : decode c_M_keptOfShip 42 = .ok (.goto 4, 3) := by decide +kernel
theorem d_M_keptOfShip_45 : decode c_M_keptOfShip 45 = .ok (.iconst 0, 1) := by decide +kernel
theorem d_M_keptOfShip_46 : decode c_M_keptOfShip 46 = .ok (.iadd, 1) := by decide +kernel
theorem d_M_keptOfShip_47 : decode c_M_keptOfShip 47 = .ok (.istore_n 3, 1) := by decide +kernel
theorem d_M_keptOfShip_48 : decode c_M_keptOfShip 48 = .ok (.iinc 4 1, 3) := by decide +kernel
theorem d_M_keptOfShip_51 : decode c_M_keptOfShip 51 = .ok (.goto (-46), 3) := by decide +kernel
theorem d_M_keptOfShip_54 : decode c_M_keptOfShip 54 = .ok (.iload_n 3, 1) := by decide +kernel
theorem d_M_keptOfShip_55 : decode c_M_keptOfShip 55 = .ok (.ireturn, 1) := by decide +kernel
theorem d_M_mean_0 : decode c_M_mean 0 = .ok (.aload_n 0, 1) := by decide +kernel
theorem d_M_mean_1 : decode c_M_mean 1 = .ok (.iload_n 1, 1) := by decide +kernel
theorem d_M_mean_2 : decode c_M_mean 2 = .ok (.iconst 4, 1) := by decide +kernel
theorem d_M_mean_3 : decode c_M_mean 3 = .ok (.invokestatic 59, 3) := by decide +kernel
theorem d_M_mean_6 : decode c_M_mean 6 = .ok (.ifCond .eq 23, 3) := by decide +kernel
theorem d_M_mean_9 : decode c_M_mean 9 = .ok (.iload_n 2, 1) := by decide +kernel
theorem d_M_mean_10 : decode c_M_mean 10 = .ok (.iconst 3, 1) := by decide +kernel
theorem d_M_mean_11 : decode c_M_mean 11 = .ok (.invokestatic 59, 3) := by decide +kernel
theorem d_M_mean_14 : decode c_M_mean 14 = .ok (.ifCond .eq 15, 3) := by decide +kernel
theorem d_M_mean_17 : decode c_M_mean 17 = .ok (.iload_n 3, 1) := by decide +kernel
theorem d_M_mean_18 : decode c_M_mean 18 = .ok (.iconst 2, 1) := by decide +kernel
theorem d_M_mean_19 : decode c_M_mean 19 = .ok (.invokestatic 59, 3) := by decide +kernel
theorem d_M_mean_22 : decode c_M_mean 22 = .ok (.ifCond .eq 7, 3) := by decide +kernel
theorem d_M_mean_25 : decode c_M_mean 25 = .ok (.iconst 0, 1) := by decide +kernel
theorem d_M_mean_26 : decode c_M_mean 26 = .ok (.goto 4, 3) := by decide +kernel
theorem d_M_mean_29 : decode c_M_mean 29 = .ok (.iconst 1, 1) := by decide +kernel
theorem d_M_mean_30 : decode c_M_mean 30 = .ok (.putfield 55, 3) := by decide +kernel
theorem d_M_mean_33 : decode c_M_mean 33 = .ok (.aload_n 0, 1) := by decide +kernel
theorem d_M_mean_34 : decode c_M_mean 34 = .ok (.getfield 55, 3) := by decide +kernel
theorem d_M_mean_37 : decode c_M_mean 37 = .ok (.ifCond .le 5, 3) := by decide +kernel
theorem d_M_mean_40 : decode c_M_mean 40 = .ok (.lconst 0, 1) := by decide +kernel
theorem d_M_mean_41 : decode c_M_mean 41 = .ok (.lreturn, 1) := by decide +kernel
theorem d_M_mean_42 : decode c_M_mean 42 = .ok (.aload_n 0, 1) := by decide +kernel
theorem d_M_mean_43 : decode c_M_mean 43 = .ok (.iload_n 1, 1) := by decide +kernel
theorem d_M_mean_44 : decode c_M_mean 44 = .ok (.iload_n 2, 1) := by decide +kernel
theorem d_M_mean_45 : decode c_M_mean 45 = .ok (.invokevirtual 109, 3) := by decide +kernel
theorem d_M_mean_48 : decode c_M_mean 48 = .ok (.istore 4, 2) := by decide +kernel
theorem d_M_mean_50 : decode c_M_mean 50 = .ok (.iconst 0, 1) := by decide +kernel
theorem d_M_mean_51 : decode c_M_mean 51 = .ok (.istore 5, 2) := by decide +kernel
theorem d_M_mean_53 : decode c_M_mean 53 = .ok (.iconst 0, 1) := by decide +kernel
theorem d_M_mean_54 : decode c_M_mean 54 = .ok (.istore 6, 2) := by decide +kernel
theorem d_M_mean_56 : decode c_M_mean 56 = .ok (.iload 6, 2) := by decide +kernel
theorem d_M_mean_58 : decode c_M_mean 58 = .ok (.aload_n 0, 1) := by decide +kernel
theorem d_M_mean_59 : decode c_M_mean 59 = .ok (.getfield 70, 3) := by decide +kernel
theorem d_M_mean_62 : decode c_M_mean 62 = .ok (.if_icmp .ge 51, 3) := by decide +kernel
theorem d_M_mean_65 : decode c_M_mean 65 = .ok (.iload 5, 2) := by decide +kernel
theorem d_M_mean_67 : decode c_M_mean 67 = .ok (.aload_n 0, 1) := by decide +kernel
theorem d_M_mean_68 : decode c_M_mean 68 = .ok (.getfield 7, 3) := by decide +kernel
theorem d_M_mean_71 : decode c_M_mean 71 = .ok (.aload_n 0, 1) := by decide +kernel
theorem d_M_mean_72 : decode c_M_mean 72 = .ok (.getfield 26, 3) := by decide +kernel
theorem d_M_mean_75 : decode c_M_mean 75 = .ok (.iload 6, 2) := by decide +kernel
theorem d_M_mean_77 : decode c_M_mean 77 = .ok (.iaload, 1) := by decide +kernel
theorem d_M_mean_78 : decode c_M_mean 78 = .ok (.iaload, 1) := by decide +kernel
theorem d_M_mean_79 : decode c_M_mean 79 = .ok (.iload_n 1, 1) := by decide +kernel
theorem d_M_mean_80 : decode c_M_mean 80 = .ok (.if_icmp .ne 23, 3) := by decide +kernel
theorem d_M_mean_83 : decode c_M_mean 83 = .ok (.aload_n 0, 1) := by decide +kernel
theorem d_M_mean_84 : decode c_M_mean 84 = .ok (.iload 6, 2) := by decide +kernel
theorem d_M_mean_86 : decode c_M_mean 86 = .ok (.iload_n 2, 1) := by decide +kernel
theorem d_M_mean_87 : decode c_M_mean 87 = .ok (.invokevirtual 77, 3) := by decide +kernel
theorem d_M_mean_90 : decode c_M_mean 90 = .ok (.ifCond .eq 13, 3) := by decide +kernel
theorem d_M_mean_93 : decode c_M_mean 93 = .ok (.aload_n 0, 1) := by decide +kernel
theorem d_M_mean_94 : decode c_M_mean 94 = .ok (.iload 6, 2) := by decide +kernel
theorem d_M_mean_96 : decode c_M_mean 96 = .ok (.iload_n 2, 1) := by decide +kernel
theorem d_M_mean_97 : decode c_M_mean 97 = .ok (.invokevirtual 73, 3) := by decide +kernel
theorem d_M_mean_100 : decode c_M_mean 100 = .ok (.goto 4, 3) := by decide +kernel
theorem d_M_mean_103 : decode c_M_mean 103 = .ok (.iconst 0, 1) := by decide +kernel
theorem d_M_mean_104 : decode c_M_mean 104 = .ok (.iadd, 1) := by decide +kernel
theorem d_M_mean_105 : decode c_M_mean 105 = .ok (.istore 5, 2) := by decide +kernel
theorem d_M_mean_107 : decode c_M_mean 107 = .ok (.iinc 6 1, 3) := by decide +kernel
theorem d_M_mean_110 : decode c_M_mean 110 = .ok (.goto (-54), 3) := by decide +kernel
theorem d_M_mean_113 : decode c_M_mean 113 = .ok (.iload 4, 2) := by decide +kernel
theorem d_M_mean_115 : decode c_M_mean 115 = .ok (.ifCond .ne 8, 3) := by decide +kernel
theorem d_M_mean_118 : decode c_M_mean 118 = .ok (.iload_n 3, 1) := by decide +kernel
theorem d_M_mean_119 : decode c_M_mean 119 = .ok (.i2l, 1) := by decide +kernel
theorem d_M_mean_120 : decode c_M_mean 120 = .ok (.goto 13, 3) := by decide +kernel
theorem d_M_mean_123 : decode c_M_mean 123 = .ok (.iload 5, 2) := by decide +kernel
theorem d_M_mean_125 : decode c_M_mean 125 = .ok (.i2l, 1) := by decide +kernel
theorem d_M_mean_126 : decode c_M_mean 126 = .ok (.iload 4, 2) := by decide +kernel
theorem d_M_mean_128 : decode c_M_mean 128 = .ok (.i2l, 1) := by decide +kernel
theorem d_M_mean_129 : decode c_M_mean 129 = .ok (.iload_n 3, 1) := by decide +kernel
theorem d_M_mean_130 : decode c_M_mean 130 = .ok (.invokestatic 87, 3) := by decide +kernel
theorem d_M_mean_133 : decode c_M_mean 133 = .ok (.lreturn, 1) := by decide +kernel
theorem d_M_weight_0 : decode c_M_weight 0 = .ok (.aload_n 0, 1) := by decide +kernel
theorem d_M_weight_1 : decode c_M_weight 1 = .ok (.iload_n 1, 1) := by decide +kernel
theorem d_M_weight_2 : decode c_M_weight 2 = .ok (.iconst 4, 1) := by decide +kernel
theorem d_M_weight_3 : decode c_M_weight 3 = .ok (.invokestatic 59, 3) := by decide +kernel
theorem d_M_weight_6 : decode c_M_weight 6 = .ok (.ifCond .eq 23, 3) := by decide +kernel
theorem d_M_weight_9 : decode c_M_weight 9 = .ok (.iload_n 2, 1) := by decide +kernel
theorem d_M_weight_10 : decode c_M_weight 10 = .ok (.iconst 3, 1) := by decide +kernel
theorem d_M_weight_11 : decode c_M_weight 11 = .ok (.invokestatic 59, 3) := by decide +kernel
theorem d_M_weight_14 : decode c_M_weight 14 = .ok (.ifCond .eq 15, 3) := by decide +kernel
theorem d_M_weight_17 : decode c_M_weight 17 = .ok (.iload_n 3, 1) := by decide +kernel
theorem d_M_weight_18 : decode c_M_weight 18 = .ok (.iconst 2, 1) := by decide +kernel
theorem d_M_weight_19 : decode c_M_weight 19 = .ok (.invokestatic 59, 3) := by decide +kernel
theorem d_M_weight_22 : decode c_M_weight 22 = .ok (.ifCond .eq 7, 3) := by decide +kernel
theorem d_M_weight_25 : decode c_M_weight 25 = .ok (.iconst 0, 1) := by decide +kernel
theorem d_M_weight_26 : decode c_M_weight 26 = .ok (.goto 4, 3) := by decide +kernel
theorem d_M_weight_29 : decode c_M_weight 29 = .ok (.iconst 1, 1) := by decide +kernel
theorem d_M_weight_30 : decode c_M_weight 30 = .ok (.putfield 55, 3) := by decide +kernel
theorem d_M_weight_33 : decode c_M_weight 33 = .ok (.aload_n 0, 1) := by decide +kernel
theorem d_M_weight_34 : decode c_M_weight 34 = .ok (.getfield 55, 3) := by decide +kernel
theorem d_M_weight_37 : decode c_M_weight 37 = .ok (.ifCond .le 5, 3) := by decide +kernel
theorem d_M_weight_40 : decode c_M_weight 40 = .ok (.lconst 0, 1) := by decide +kernel
theorem d_M_weight_41 : decode c_M_weight 41 = .ok (.lreturn, 1) := by decide +kernel
theorem d_M_weight_42 : decode c_M_weight 42 = .ok (.aload_n 0, 1) := by decide +kernel
theorem d_M_weight_43 : decode c_M_weight 43 = .ok (.iload_n 2, 1) := by decide +kernel
theorem d_M_weight_44 : decode c_M_weight 44 = .ok (.invokevirtual 80, 3) := by decide +kernel
theorem d_M_weight_47 : decode c_M_weight 47 = .ok (.istore 4, 2) := by decide +kernel
theorem d_M_weight_49 : decode c_M_weight 49 = .ok (.iload 4, 2) := by decide +kernel
theorem d_M_weight_51 : decode c_M_weight 51 = .ok (.ifCond .ne 8, 3) := by decide +kernel
theorem d_M_weight_54 : decode c_M_weight 54 = .ok (.iload_n 3, 1) := by decide +kernel
theorem d_M_weight_55 : decode c_M_weight 55 = .ok (.i2l, 1) := by decide +kernel
theorem d_M_weight_56 : decode c_M_weight 56 = .ok (.goto 17, 3) := by decide +kernel
theorem d_M_weight_59 : decode c_M_weight 59 = .ok (.aload_n 0, 1) := by decide +kernel
theorem d_M_weight_60 : decode c_M_weight 60 = .ok (.iload_n 1, 1) := by decide +kernel
theorem d_M_weight_61 : decode c_M_weight 61 = .ok (.iload_n 2, 1) := by decide +kernel
theorem d_M_weight_62 : decode c_M_weight 62 = .ok (.invokevirtual 109, 3) := by decide +kernel
theorem d_M_weight_65 : decode c_M_weight 65 = .ok (.i2l, 1) := by decide +kernel
theorem d_M_weight_66 : decode c_M_weight 66 = .ok (.iload 4, 2) := by decide +kernel
theorem d_M_weight_68 : decode c_M_weight 68 = .ok (.i2l, 1) := by decide +kernel
theorem d_M_weight_69 : decode c_M_weight 69 = .ok (.iload_n 3, 1) := by decide +kernel
theorem d_M_weight_70 : decode c_M_weight 70 = .ok (.invokestatic 87, 3) := by decide +kernel
theorem d_M_weight_73 : decode c_M_weight 73 = .ok (.lreturn, 1) := by decide +kernel
theorem d_M_joined_0 : decode c_M_joined 0 = .ok (.aload_n 0, 1) := by decide +kernel
theorem d_M_joined_1 : decode c_M_joined 1 = .ok (.iload_n 1, 1) := by decide +kernel
theorem d_M_joined_2 : decode c_M_joined 2 = .ok (.iconst 3, 1) := by decide +kernel
theorem d_M_joined_3 : decode c_M_joined 3 = .ok (.invokestatic 59, 3) := by decide +kernel
theorem d_M_joined_6 : decode c_M_joined 6 = .ok (.ifCond .eq 15, 3) := by decide +kernel
theorem d_M_joined_9 : decode c_M_joined 9 = .ok (.iload_n 2, 1) := by decide +kernel
theorem d_M_joined_10 : decode c_M_joined 10 = .ok (.iconst 2, 1) := by decide +kernel
theorem d_M_joined_11 : decode c_M_joined 11 = .ok (.invokestatic 59, 3) := by decide +kernel
theorem d_M_joined_14 : decode c_M_joined 14 = .ok (.ifCond .eq 7, 3) := by decide +kernel
theorem d_M_joined_17 : decode c_M_joined 17 = .ok (.iconst 0, 1) := by decide +kernel
theorem d_M_joined_18 : decode c_M_joined 18 = .ok (.goto 4, 3) := by decide +kernel
theorem d_M_joined_21 : decode c_M_joined 21 = .ok (.iconst 1, 1) := by decide +kernel
theorem d_M_joined_22 : decode c_M_joined 22 = .ok (.putfield 55, 3) := by decide +kernel
theorem d_M_joined_25 : decode c_M_joined 25 = .ok (.aload_n 0, 1) := by decide +kernel
theorem d_M_joined_26 : decode c_M_joined 26 = .ok (.getfield 55, 3) := by decide +kernel
theorem d_M_joined_29 : decode c_M_joined 29 = .ok (.ifCond .le 5, 3) := by decide +kernel
theorem d_M_joined_32 : decode c_M_joined 32 = .ok (.lconst 0, 1) := by decide +kernel
theorem d_M_joined_33 : decode c_M_joined 33 = .ok (.lreturn, 1) := by decide +kernel
theorem d_M_joined_34 : decode c_M_joined 34 = .ok (.aload_n 0, 1) := by decide +kernel
theorem d_M_joined_35 : decode c_M_joined 35 = .ok (.iload_n 1, 1) := by decide +kernel
theorem d_M_joined_36 : decode c_M_joined 36 = .ok (.invokevirtual 80, 3) := by decide +kernel
theorem d_M_joined_39 : decode c_M_joined 39 = .ok (.istore_n 3, 1) := by decide +kernel
theorem d_M_joined_40 : decode c_M_joined 40 = .ok (.iload_n 3, 1) := by decide +kernel
theorem d_M_joined_41 : decode c_M_joined 41 = .ok (.ifCond .ne 8, 3) := by decide +kernel
theorem d_M_joined_44 : decode c_M_joined 44 = .ok (.iload_n 2, 1) := by decide +kernel
theorem d_M_joined_45 : decode c_M_joined 45 = .ok (.i2l, 1) := by decide +kernel
theorem d_M_joined_46 : decode c_M_joined 46 = .ok (.goto 15, 3) := by decide +kernel
theorem d_M_joined_49 : decode c_M_joined 49 = .ok (.aload_n 0, 1) := by decide +kernel
theorem d_M_joined_50 : decode c_M_joined 50 = .ok (.iload_n 1, 1) := by decide +kernel
theorem d_M_joined_51 : decode c_M_joined 51 = .ok (.invokevirtual 84, 3) := by decide +kernel
theorem d_M_joined_54 : decode c_M_joined 54 = .ok (.i2l, 1) := by decide +kernel
theorem d_M_joined_55 : decode c_M_joined 55 = .ok (.iload_n 3, 1) := by decide +kernel
theorem d_M_joined_56 : decode c_M_joined 56 = .ok (.i2l, 1) := by decide +kernel
theorem d_M_joined_57 : decode c_M_joined 57 = .ok (.iload_n 2, 1) := by decide +kernel
theorem d_M_joined_58 : decode c_M_joined 58 = .ok (.invokestatic 87, 3) := by decide +kernel
theorem d_M_joined_61 : decode c_M_joined 61 = .ok (.lreturn, 1) := by decide +kernel
theorem d_M_areUnlike_0 : decode c_M_areUnlike 0 = .ok (.aload_n 0, 1) := by decide +kernel
theorem d_M_areUnlike_1 : decode c_M_areUnlike 1 = .ok (.getfield 35, 3) := by decide +kernel
theorem d_M_areUnlike_4 : decode c_M_areUnlike 4 = .ok (.iconst 2, 1) := by decide +kernel
theorem d_M_areUnlike_5 : decode c_M_areUnlike 5 = .ok (.iload_n 1, 1) := by decide +kernel
theorem d_M_areUnlike_6 : decode c_M_areUnlike 6 = .ok (.imul, 1) := by decide +kernel
theorem d_M_areUnlike_7 : decode c_M_areUnlike 7 = .ok (.iaload, 1) := by decide +kernel
theorem d_M_areUnlike_8 : decode c_M_areUnlike 8 = .ok (.istore_n 2, 1) := by decide +kernel
theorem d_M_areUnlike_9 : decode c_M_areUnlike 9 = .ok (.aload_n 0, 1) := by decide +kernel
theorem d_M_areUnlike_10 : decode c_M_areUnlike 10 = .ok (.getfield 35, 3) := by decide +kernel
theorem d_M_areUnlike_13 : decode c_M_areUnlike 13 = .ok (.iconst 2, 1) := by decide +kernel
theorem d_M_areUnlike_14 : decode c_M_areUnlike 14 = .ok (.iload_n 1, 1) := by decide +kernel
theorem d_M_areUnlike_15 : decode c_M_areUnlike 15 = .ok (.imul, 1) := by decide +kernel
theorem d_M_areUnlike_16 : decode c_M_areUnlike 16 = .ok (.iconst 1, 1) := by decide +kernel
theorem d_M_areUnlike_17 : decode c_M_areUnlike 17 = .ok (.iadd, 1) := by decide +kernel
theorem d_M_areUnlike_18 : decode c_M_areUnlike 18 = .ok (.iaload, 1) := by decide +kernel
theorem d_M_areUnlike_19 : decode c_M_areUnlike 19 = .ok (.istore_n 3, 1) := by decide +kernel
theorem d_M_areUnlike_20 : decode c_M_areUnlike 20 = .ok (.iload_n 2, 1) := by decide +kernel
theorem d_M_areUnlike_21 : decode c_M_areUnlike 21 = .ok (.ifCond .lt 26, 3) := by decide +kernel
theorem d_M_areUnlike_24 : decode c_M_areUnlike 24 = .ok (.iload_n 3, 1) := by decide +kernel
theorem d_M_areUnlike_25 : decode c_M_areUnlike 25 = .ok (.ifCond .lt 22, 3) := by decide +kernel
theorem d_M_areUnlike_28 : decode c_M_areUnlike 28 = .ok (.bipush 10, 2) := by decide +kernel
theorem d_M_areUnlike_30 : decode c_M_areUnlike 30 = .ok (.iload_n 2, 1) := by decide +kernel
theorem d_M_areUnlike_31 : decode c_M_areUnlike 31 = .ok (.iload_n 3, 1) := by decide +kernel
theorem d_M_areUnlike_32 : decode c_M_areUnlike 32 = .ok (.isub, 1) := by decide +kernel
theorem d_M_areUnlike_33 : decode c_M_areUnlike 33 = .ok (.invokestatic 94, 3) := by decide +kernel
theorem d_M_areUnlike_36 : decode c_M_areUnlike 36 = .ok (.imul, 1) := by decide +kernel
theorem d_M_areUnlike_37 : decode c_M_areUnlike 37 = .ok (.iload_n 2, 1) := by decide +kernel
theorem d_M_areUnlike_38 : decode c_M_areUnlike 38 = .ok (.iload_n 3, 1) := by decide +kernel
theorem d_M_areUnlike_39 : decode c_M_areUnlike 39 = .ok (.iadd, 1) := by decide +kernel
theorem d_M_areUnlike_40 : decode c_M_areUnlike 40 = .ok (.if_icmp .le 7, 3) := by decide +kernel
theorem d_M_areUnlike_43 : decode c_M_areUnlike 43 = .ok (.iconst 1, 1) := by decide +kernel
theorem d_M_areUnlike_44 : decode c_M_areUnlike 44 = .ok (.goto 4, 3) := by decide +kernel
theorem d_M_areUnlike_47 : decode c_M_areUnlike 47 = .ok (.iconst 0, 1) := by decide +kernel
theorem d_M_areUnlike_48 : decode c_M_areUnlike 48 = .ok (.ireturn, 1) := by decide +kernel
theorem d_M_reader_0 : decode c_M_reader 0 = .ok (.aload_n 0, 1) := by decide +kernel
theorem d_M_reader_1 : decode c_M_reader 1 = .ok (.iload_n 1, 1) := by decide +kernel
theorem d_M_reader_2 : decode c_M_reader 2 = .ok (.aload_n 0, 1) := by decide +kernel
theorem d_M_reader_3 : decode c_M_reader 3 = .ok (.getfield 63, 3) := by decide +kernel
theorem d_M_reader_6 : decode c_M_reader 6 = .ok (.invokestatic 59, 3) := by decide +kernel
theorem d_M_reader_9 : decode c_M_reader 9 = .ok (.ifCond .eq 11, 3) := by decide +kernel
theorem d_M_reader_12 : decode c_M_reader 12 = .ok (.iload_n 2, 1) := by decide +kernel
theorem d_M_reader_13 : decode c_M_reader 13 = .ok (.iconst 2, 1) := by decide +kernel
theorem d_M_reader_14 : decode c_M_reader 14 = .ok (.invokestatic 59, 3) := by decide +kernel
theorem d_M_reader_17 : decode c_M_reader 17 = .ok (.ifCond .ne 7, 3) := by decide +kernel
theorem d_M_reader_20 : decode c_M_reader 20 = .ok (.iconst 1, 1) := by decide +kernel
theorem d_M_reader_21 : decode c_M_reader 21 = .ok (.goto 18, 3) := by decide +kernel
theorem d_M_reader_24 : decode c_M_reader 24 = .ok (.iload_n 3, 1) := by decide +kernel
