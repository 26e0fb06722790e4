theorem d_M_init_39 : decode c_M_init 39 = .ok (.putfield 23, 3) := by decide +kernel
theorem d_M_init_42 : decode c_M_init 42 = .ok (.aload_n 0, 1) := by decide +kernel
theorem d_M_init_43 : decode c_M_init 43 = .ok (.bipush 16, 2) := by decide +kernel
theorem d_M_init_45 : decode c_M_init 45 = .ok (.newarray .int, 2) := by decide +kernel
theorem d_M_init_47 : decode c_M_init 47 = .ok (.putfield 26, 3) := by decide +kernel
theorem d_M_init_50 : decode c_M_init 50 = .ok (.aload_n 0, 1) := by decide +kernel
theorem d_M_init_51 : decode c_M_init 51 = .ok (.bipush 16, 2) := by decide +kernel
theorem d_M_init_53 : decode c_M_init 53 = .ok (.newarray .int, 2) := by decide +kernel
theorem d_M_init_55 : decode c_M_init 55 = .ok (.putfield 29, 3) := by decide +kernel
theorem d_M_init_58 : decode c_M_init 58 = .ok (.aload_n 0, 1) := by decide +kernel
theorem d_M_init_59 : decode c_M_init 59 = .ok (.iconst 4, 1) := by decide +kernel
theorem d_M_init_60 : decode c_M_init 60 = .ok (.newarray .boolean, 2) := by decide +kernel
theorem d_M_init_62 : decode c_M_init 62 = .ok (.putfield 32, 3) := by decide +kernel
theorem d_M_init_65 : decode c_M_init 65 = .ok (.aload_n 0, 1) := by decide +kernel
theorem d_M_init_66 : decode c_M_init 66 = .ok (.bipush 64, 2) := by decide +kernel
theorem d_M_init_68 : decode c_M_init 68 = .ok (.newarray .int, 2) := by decide +kernel
theorem d_M_init_70 : decode c_M_init 70 = .ok (.putfield 35, 3) := by decide +kernel
theorem d_M_init_73 : decode c_M_init 73 = .ok (.aload_n 0, 1) := by decide +kernel
theorem d_M_init_74 : decode c_M_init 74 = .ok (.iconst 3, 1) := by decide +kernel
theorem d_M_init_75 : decode c_M_init 75 = .ok (.newarray .int, 2) := by decide +kernel
theorem d_M_init_77 : decode c_M_init 77 = .ok (.putfield 38, 3) := by decide +kernel
theorem d_M_init_80 : decode c_M_init 80 = .ok (.aload_n 0, 1) := by decide +kernel
theorem d_M_init_81 : decode c_M_init 81 = .ok (.bipush 16, 2) := by decide +kernel
theorem d_M_init_83 : decode c_M_init 83 = .ok (.newarray .int, 2) := by decide +kernel
theorem d_M_init_85 : decode c_M_init 85 = .ok (.putfield 41, 3) := by decide +kernel
theorem d_M_init_88 : decode c_M_init 88 = .ok (.aload_n 0, 1) := by decide +kernel
theorem d_M_init_89 : decode c_M_init 89 = .ok (.bipush 35, 2) := by decide +kernel
theorem d_M_init_91 : decode c_M_init 91 = .ok (.newarray .long, 2) := by decide +kernel
theorem d_M_init_93 : decode c_M_init 93 = .ok (.putfield 44, 3) := by decide +kernel
theorem d_M_init_96 : decode c_M_init 96 = .ok (.aload_n 0, 1) := by decide +kernel
theorem d_M_init_97 : decode c_M_init 97 = .ok (.bipush 35, 2) := by decide +kernel
theorem d_M_init_99 : decode c_M_init 99 = .ok (.newarray .long, 2) := by decide +kernel
theorem d_M_init_101 : decode c_M_init 101 = .ok (.putfield 48, 3) := by decide +kernel
theorem d_M_init_104 : decode c_M_init 104 = .ok (.aload_n 0, 1) := by decide +kernel
theorem d_M_init_105 : decode c_M_init 105 = .ok (.iload_n 1, 1) := by decide +kernel
theorem d_M_init_106 : decode c_M_init 106 = .ok (.i2l, 1) := by decide +kernel
theorem d_M_init_107 : decode c_M_init 107 = .ok (.putfield 51, 3) := by decide +kernel
theorem d_M_init_110 : decode c_M_init 110 = .ok (.iconst 0, 1) := by decide +kernel
theorem d_M_init_111 : decode c_M_init 111 = .ok (.istore_n 2, 1) := by decide +kernel
theorem d_M_init_112 : decode c_M_init 112 = .ok (.iload_n 2, 1) := by decide +kernel
theorem d_M_init_113 : decode c_M_init 113 = .ok (.bipush 64, 2) := by decide +kernel
theorem d_M_init_115 : decode c_M_init 115 = .ok (.if_icmp .ge 16, 3) := by decide +kernel
theorem d_M_init_118 : decode c_M_init 118 = .ok (.aload_n 0, 1) := by decide +kernel
theorem d_M_init_119 : decode c_M_init 119 = .ok (.getfield 35, 3) := by decide +kernel
theorem d_M_init_122 : decode c_M_init 122 = .ok (.iload_n 2, 1) := by decide +kernel
theorem d_M_init_123 : decode c_M_init 123 = .ok (.iconst (-1), 1) := by decide +kernel
theorem d_M_init_124 : decode c_M_init 124 = .ok (.iastore, 1) := by decide +kernel
theorem d_M_init_125 : decode c_M_init 125 = .ok (.iinc 2 1, 3) := by decide +kernel
theorem d_M_init_128 : decode c_M_init 128 = .ok (.goto (-16), 3) := by decide +kernel
theorem d_M_init_131 : decode c_M_init 131 = .ok (.return_, 1) := by decide +kernel
theorem d_M_thrown_0 : decode c_M_thrown 0 = .ok (.aload_n 0, 1) := by decide +kernel
theorem d_M_thrown_1 : decode c_M_thrown 1 = .ok (.getfield 55, 3) := by decide +kernel
theorem d_M_thrown_4 : decode c_M_thrown 4 = .ok (.ireturn, 1) := by decide +kernel
theorem d_M_isIn_0 : decode c_M_isIn 0 = .ok (.iload_n 0, 1) := by decide +kernel
theorem d_M_isIn_1 : decode c_M_isIn 1 = .ok (.ifCond .lt 12, 3) := by decide +kernel
theorem d_M_isIn_4 : decode c_M_isIn 4 = .ok (.iload_n 0, 1) := by decide +kernel
theorem d_M_isIn_5 : decode c_M_isIn 5 = .ok (.iload_n 1, 1) := by decide +kernel
theorem d_M_isIn_6 : decode c_M_isIn 6 = .ok (.if_icmp .ge 7, 3) := by decide +kernel
theorem d_M_isIn_9 : decode c_M_isIn 9 = .ok (.iconst 1, 1) := by decide +kernel
theorem d_M_isIn_10 : decode c_M_isIn 10 = .ok (.goto 4, 3) := by decide +kernel
theorem d_M_isIn_13 : decode c_M_isIn 13 = .ok (.iconst 0, 1) := by decide +kernel
theorem d_M_isIn_14 : decode c_M_isIn 14 = .ok (.ireturn, 1) := by decide +kernel
theorem d_M_haul_0 : decode c_M_haul 0 = .ok (.aload_n 0, 1) := by decide +kernel
theorem d_M_haul_1 : decode c_M_haul 1 = .ok (.iload_n 1, 1) := by decide +kernel
theorem d_M_haul_2 : decode c_M_haul 2 = .ok (.iconst 4, 1) := by decide +kernel
theorem d_M_haul_3 : decode c_M_haul 3 = .ok (.invokestatic 59, 3) := by decide +kernel
theorem d_M_haul_6 : decode c_M_haul 6 = .ok (.ifCond .ne 7, 3) := by decide +kernel
theorem d_M_haul_9 : decode c_M_haul 9 = .ok (.iconst 1, 1) := by decide +kernel
theorem d_M_haul_10 : decode c_M_haul 10 = .ok (.goto 17, 3) := by decide +kernel
theorem d_M_haul_13 : decode c_M_haul 13 = .ok (.aload_n 0, 1) := by decide +kernel
theorem d_M_haul_14 : decode c_M_haul 14 = .ok (.getfield 63, 3) := by decide +kernel
theorem d_M_haul_17 : decode c_M_haul 17 = .ok (.bipush 32, 2) := by decide +kernel
theorem d_M_haul_19 : decode c_M_haul 19 = .ok (.if_icmp .ne 7, 3) := by decide +kernel
theorem d_M_haul_22 : decode c_M_haul 22 = .ok (.iconst 2, 1) := by decide +kernel
theorem d_M_haul_23 : decode c_M_haul 23 = .ok (.goto 4, 3) := by decide +kernel
theorem d_M_haul_26 : decode c_M_haul 26 = .ok (.iconst 0, 1) := by decide +kernel
theorem d_M_haul_27 : decode c_M_haul 27 = .ok (.putfield 55, 3) := by decide +kernel
theorem d_M_haul_30 : decode c_M_haul 30 = .ok (.aload_n 0, 1) := by decide +kernel
theorem d_M_haul_31 : decode c_M_haul 31 = .ok (.getfield 55, 3) := by decide +kernel
theorem d_M_haul_34 : decode c_M_haul 34 = .ok (.ifCond .le 5, 3) := by decide +kernel
theorem d_M_haul_37 : decode c_M_haul 37 = .ok (.iconst 0, 1) := by decide +kernel
theorem d_M_haul_38 : decode c_M_haul 38 = .ok (.ireturn, 1) := by decide +kernel
theorem d_M_haul_39 : decode c_M_haul 39 = .ok (.aload_n 0, 1) := by decide +kernel
theorem d_M_haul_40 : decode c_M_haul 40 = .ok (.getfield 7, 3) := by decide +kernel
theorem d_M_haul_43 : decode c_M_haul 43 = .ok (.aload_n 0, 1) := by decide +kernel
theorem d_M_haul_44 : decode c_M_haul 44 = .ok (.getfield 63, 3) := by decide +kernel
theorem d_M_haul_47 : decode c_M_haul 47 = .ok (.iload_n 1, 1) := by decide +kernel
theorem d_M_haul_48 : decode c_M_haul 48 = .ok (.iastore, 1) := by decide +kernel
theorem d_M_haul_49 : decode c_M_haul 49 = .ok (.aload_n 0, 1) := by decide +kernel
theorem d_M_haul_50 : decode c_M_haul 50 = .ok (.getfield 20, 3) := by decide +kernel
theorem d_M_haul_53 : decode c_M_haul 53 = .ok (.iload_n 1, 1) := by decide +kernel
theorem d_M_haul_54 : decode c_M_haul 54 = .ok (.iaload, 1) := by decide +kernel
theorem d_M_haul_55 : decode c_M_haul 55 = .ok (.iconst 2, 1) := by decide +kernel
theorem d_M_haul_56 : decode c_M_haul 56 = .ok (.irem, 1) := by decide +kernel
theorem d_M_haul_57 : decode c_M_haul 57 = .ok (.ifCond .ne 50, 3) := by decide +kernel
theorem d_M_haul_60 : decode c_M_haul 60 = .ok (.aload_n 0, 1) := by decide +kernel
theorem d_M_haul_61 : decode c_M_haul 61 = .ok (.aload_n 0, 1) := by decide +kernel
theorem d_M_haul_62 : decode c_M_haul 62 = .ok (.getfield 51, 3) := by decide +kernel
theorem d_M_haul_65 : decode c_M_haul 65 = .ok (.ldc2_w 66, 3) := by decide +kernel
theorem d_M_haul_68 : decode c_M_haul 68 = .ok (.lmul, 1) := by decide +kernel
theorem d_M_haul_69 : decode c_M_haul 69 = .ok (.ldc2_w 68, 3) := by decide +kernel
theorem d_M_haul_72 : decode c_M_haul 72 = .ok (.ladd, 1) := by decide +kernel
theorem d_M_haul_73 : decode c_M_haul 73 = .ok (.putfield 51, 3) := by decide +kernel
theorem d_M_haul_76 : decode c_M_haul 76 = .ok (.aload_n 0, 1) := by decide +kernel
theorem d_M_haul_77 : decode c_M_haul 77 = .ok (.getfield 13, 3) := by decide +kernel
theorem d_M_haul_80 : decode c_M_haul 80 = .ok (.aload_n 0, 1) := by decide +kernel
theorem d_M_haul_81 : decode c_M_haul 81 = .ok (.getfield 63, 3) := by decide +kernel
theorem d_M_haul_84 : decode c_M_haul 84 = .ok (.aload_n 0, 1) := by decide +kernel
theorem d_M_haul_85 : decode c_M_haul 85 = .ok (.getfield 51, 3) := by decide +kernel
theorem d_M_haul_88 : decode c_M_haul 88 = .ok (.bipush 40, 2) := by decide +kernel
theorem d_M_haul_90 : decode c_M_haul 90 = .ok (.lshr, 1) := by decide +kernel
theorem d_M_haul_91 : decode c_M_haul 91 = .ok (.lconst 1, 1) := by decide +kernel
theorem d_M_haul_92 : decode c_M_haul 92 = .ok (.land, 1) := by decide +kernel
theorem d_M_haul_93 : decode c_M_haul 93 = .ok (.lconst 1, 1) := by decide +kernel
theorem d_M_haul_94 : decode c_M_haul 94 = .ok (.lcmp, 1) := by decide +kernel
theorem d_M_haul_95 : decode c_M_haul 95 = .ok (.ifCond .ne 7, 3) := by decide +kernel
theorem d_M_haul_98 : decode c_M_haul 98 = .ok (.iconst 1, 1) := by decide +kernel
theorem d_M_haul_99 : decode c_M_haul 99 = .ok (.goto 4, 3) := by decide +kernel
theorem d_M_haul_102 : decode c_M_haul 102 = .ok (.iconst 0, 1) := by decide +kernel
theorem d_M_haul_103 : decode c_M_haul 103 = .ok (.bastore, 1) := by decide +kernel
theorem d_M_haul_104 : decode c_M_haul 104 = .ok (.goto 69, 3) := by decide +kernel
theorem d_M_haul_107 : decode c_M_haul 107 = .ok (.aload_n 0, 1) := by decide +kernel
theorem d_M_haul_108 : decode c_M_haul 108 = .ok (.getfield 13, 3) := by decide +kernel
theorem d_M_haul_111 : decode c_M_haul 111 = .ok (.aload_n 0, 1) := by decide +kernel
theorem d_M_haul_112 : decode c_M_haul 112 = .ok (.getfield 63, 3) := by decide +kernel
theorem d_M_haul_115 : decode c_M_haul 115 = .ok (.aload_n 0, 1) := by decide +kernel
theorem d_M_haul_116 : decode c_M_haul 116 = .ok (.getfield 13, 3) := by decide +kernel
theorem d_M_haul_119 : decode c_M_haul 119 = .ok (.aload_n 0, 1) := by decide +kernel
theorem d_M_haul_120 : decode c_M_haul 120 = .ok (.getfield 23, 3) := by decide +kernel
theorem d_M_haul_123 : decode c_M_haul 123 = .ok (.iload_n 1, 1) := by decide +kernel
theorem d_M_haul_124 : decode c_M_haul 124 = .ok (.iaload, 1) := by decide +kernel
theorem d_M_haul_125 : decode c_M_haul 125 = .ok (.baload, 1) := by decide +kernel
theorem d_M_haul_126 : decode c_M_haul 126 = .ok (.ifCond .ne 7, 3) := by decide +kernel
theorem d_M_haul_129 : decode c_M_haul 129 = .ok (.iconst 1, 1) := by decide +kernel
theorem d_M_haul_130 : decode c_M_haul 130 = .ok (.goto 4, 3) := by decide +kernel
theorem d_M_haul_133 : decode c_M_haul 133 = .ok (.iconst 0, 1) := by decide +kernel
theorem d_M_haul_134 : decode c_M_haul 134 = .ok (.bastore, 1) := by decide +kernel
theorem d_M_haul_135 : decode c_M_haul 135 = .ok (.aload_n 0, 1) := by decide +kernel
theorem d_M_haul_136 : decode c_M_haul 136 = .ok (.getfield 26, 3) := by decide +kernel
theorem d_M_haul_139 : decode c_M_haul 139 = .ok (.aload_n 0, 1) := by decide +kernel
theorem d_M_haul_140 : decode c_M_haul 140 = .ok (.getfield 70, 3) := by decide +kernel
theorem d_M_haul_143 : decode c_M_haul 143 = .ok (.aload_n 0, 1) := by decide +kernel
theorem d_M_haul_144 : decode c_M_haul 144 = .ok (.getfield 23, 3) := by decide +kernel
theorem d_M_haul_147 : decode c_M_haul 147 = .ok (.iload_n 1, 1) := by decide +kernel
theorem d_M_haul_148 : decode c_M_haul 148 = .ok (.iaload, 1) := by decide +kernel
theorem d_M_haul_149 : decode c_M_haul 149 = .ok (.iastore, 1) := by decide +kernel
theorem d_M_haul_150 : decode c_M_haul 150 = .ok (.aload_n 0, 1) := by decide +kernel
theorem d_M_haul_151 : decode c_M_haul 151 = .ok (.getfield 29, 3) := by decide +kernel
theorem d_M_haul_154 : decode c_M_haul 154 = .ok (.aload_n 0, 1) := by decide +kernel
theorem d_M_haul_155 : decode c_M_haul 155 = .ok (.getfield 70, 3) := by decide +kernel
theorem d_M_haul_158 : decode c_M_haul 158 = .ok (.aload_n 0, 1) := by decide +kernel
theorem d_M_haul_159 : decode c_M_haul 159 = .ok (.getfield 63, 3) := by decide +kernel
theorem d_M_haul_162 : decode c_M_haul 162 = .ok (.iastore, 1) := by decide +kernel
theorem d_M_haul_163 : decode c_M_haul 163 = .ok (.aload_n 0, 1) := by decide +kernel
theorem d_M_haul_164 : decode c_M_haul 164 = .ok (.dup, 1) := by decide +kernel
theorem d_M_haul_165 : decode c_M_haul 165 = .ok (.getfield 70, 3) := by decide +kernel
theorem d_M_haul_168 : decode c_M_haul 168 = .ok (.iconst 1, 1) := by decide +kernel
theorem d_M_haul_169 : decode c_M_haul 169 = .ok (.iadd, 1) := by decide +kernel
theorem d_M_haul_170 : decode c_M_haul 170 = .ok (.putfield 70, 3) := by decide +kernel
theorem d_M_haul_173 : decode c_M_haul 173 = .ok (.aload_n 0, 1) := by decide +kernel
theorem d_M_haul_174 : decode c_M_haul 174 = .ok (.getfield 23, 3) := by decide +kernel
theorem d_M_haul_177 : decode c_M_haul 177 = .ok (.iload_n 1, 1) := by decide +kernel
theorem d_M_haul_178 : decode c_M_haul 178 = .ok (.aload_n 0, 1) := by decide +kernel
theorem d_M_haul_179 : decode c_M_haul 179 = .ok (.getfield 63, 3) := by decide +kernel
theorem d_M_haul_182 : decode c_M_haul 182 = .ok (.iastore, 1) := by decide +kernel
theorem d_M_haul_183 : decode c_M_haul 183 = .ok (.aload_n 0, 1) := by decide +kernel
theorem d_M_haul_184 : decode c_M_haul 184 = .ok (.getfield 20, 3) := by decide +kernel
theorem d_M_haul_187 : decode c_M_haul 187 = .ok (.iload_n 1, 1) := by decide +kernel
theorem d_M_haul_188 : decode c_M_haul 188 = .ok (.dup2, 1) := by decide +kernel
theorem d_M_haul_189 : decode c_M_haul 189 = .ok (.iaload, 1) := by decide +kernel
theorem d_M_haul_190 : decode c_M_haul 190 = .ok (.iconst 1, 1) := by decide +kernel
theorem d_M_haul_191 : decode c_M_haul 191 = .ok (.iadd, 1) := by decide +kernel
theorem d_M_haul_192 : decode c_M_haul 192 = .ok (.iastore, 1) := by decide +kernel
theorem d_M_haul_193 : decode c_M_haul 193 = .ok (.aload_n 0, 1) := by decide +kernel
theorem d_M_haul_194 : decode c_M_haul 194 = .ok (.dup, 1) := by decide +kernel
theorem d_M_haul_195 : decode c_M_haul 195 = .ok (.getfield 63, 3) := by decide +kernel
theorem d_M_haul_198 : decode c_M_haul 198 = .ok (.iconst 1, 1) := by decide +kernel
theorem d_M_haul_199 : decode c_M_haul 199 = .ok (.iadd, 1) := by decide +kernel
theorem d_M_haul_200 : decode c_M_haul 200 = .ok (.putfield 63, 3) := by decide +kernel
theorem d_M_haul_203 : decode c_M_haul 203 = .ok (.aload_n 0, 1) := by decide +kernel
theorem d_M_haul_204 : decode c_M_haul 204 = .ok (.getfield 63, 3) := by decide +kernel
theorem d_M_haul_207 : decode c_M_haul 207 = .ok (.iconst 1, 1) := by decide +kernel
theorem d_M_haul_208 : decode c_M_haul 208 = .ok (.isub, 1) := by decide +kernel
theorem d_M_haul_209 : decode c_M_haul 209 = .ok (.ireturn, 1) := by decide +kernel
theorem d_M_caught_0 : decode c_M_caught 0 = .ok (.aload_n 0, 1) := by decide +kernel
theorem d_M_caught_1 : decode c_M_caught 1 = .ok (.iload_n 1, 1) := by decide +kernel
theorem d_M_caught_2 : decode c_M_caught 2 = .ok (.aload_n 0, 1) := by decide +kernel
theorem d_M_caught_3 : decode c_M_caught 3 = .ok (.getfield 63, 3) := by decide +kernel
theorem d_M_caught_6 : decode c_M_caught 6 = .ok (.invokestatic 59, 3) := by decide +kernel
theorem d_M_caught_9 : decode c_M_caught 9 = .ok (.ifCond .eq 11, 3) := by decide +kernel
theorem d_M_caught_12 : decode c_M_caught 12 = .ok (.iload_n 2, 1) := by decide +kernel
theorem d_M_caught_13 : decode c_M_caught 13 = .ok (.iconst 3, 1) := by decide +kernel
theorem d_M_caught_14 : decode c_M_caught 14 = .ok (.invokestatic 59, 3) := by decide +kernel
theorem d_M_caught_17 : decode c_M_caught 17 = .ok (.ifCond .ne 7, 3) := by decide +kernel
theorem d_M_caught_20 : decode c_M_caught 20 = .ok (.iconst 1, 1) := by decide +kernel
theorem d_M_caught_21 : decode c_M_caught 21 = .ok (.goto 19, 3) := by decide +kernel
theorem d_M_caught_24 : decode c_M_caught 24 = .ok (.iload_n 3, 1) := by decide +kernel
theorem d_M_caught_25 : decode c_M_caught 25 = .ok (.ifCond .lt 10, 3) := by decide +kernel
theorem d_M_caught_28 : decode c_M_caught 28 = .ok (.iload_n 3, 1) := by decide +kernel
theorem d_M_caught_29 : decode c_M_caught 29 = .ok (.sipush 1000, 3) := by decide +kernel
theorem d_M_caught_32 : decode c_M_caught 32 = .ok (.if_icmp .le 7, 3) := by decide +kernel
theorem d_M_caught_35 : decode c_M_caught 35 = .ok (.iconst 2, 1) := by decide +kernel
theorem d_M_caught_36 : decode c_M_caught 36 = .ok (.goto 4, 3) := by decide +kernel
theorem d_M_caught_39 : decode c_M_caught 39 = .ok (.iconst 0, 1) := by decide +kernel
theorem d_M_caught_40 : decode c_M_caught 40 = .ok (.putfield 55, 3) := by decide +kernel
theorem d_M_caught_43 : decode c_M_caught 43 = .ok (.aload_n 0, 1) := by decide +kernel
theorem d_M_caught_44 : decode c_M_caught 44 = .ok (.getfield 55, 3) := by decide +kernel
theorem d_M_caught_47 : decode c_M_caught 47 = .ok (.ifCond .le 5, 3) := by decide +kernel
theorem d_M_caught_50 : decode c_M_caught 50 = .ok (.iconst 0, 1) := by decide +kernel
theorem d_M_caught_51 : decode c_M_caught 51 = .ok (.ireturn, 1) := by decide +kernel
theorem d_M_caught_52 : decode c_M_caught 52 = .ok (.aload_n 0, 1) := by decide +kernel
theorem d_M_caught_53 : decode c_M_caught 53 = .ok (.getfield 17, 3) := by decide +kernel
theorem d_M_caught_56 : decode c_M_caught 56 = .ok (.iconst 3, 1) := by decide +kernel
theorem d_M_caught_57 : decode c_M_caught 57 = .ok (.iload_n 1, 1) := by decide +kernel
theorem d_M_caught_58 : decode c_M_caught 58 = .ok (.imul, 1) := by decide +kernel
theorem d_M_caught_59 : decode c_M_caught 59 = .ok (.iload_n 2, 1) := by decide +kernel
theorem d_M_caught_60 : decode c_M_caught 60 = .ok (.iadd, 1) := by decide +kernel
theorem d_M_caught_61 : decode c_M_caught 61 = .ok (.iaload, 1) := by decide +kernel
theorem d_M_caught_62 : decode c_M_caught 62 = .ok (.iload_n 3, 1) := by decide +kernel
theorem d_M_caught_63 : decode c_M_caught 63 = .ok (.if_icmp .eq 7, 3) := by decide +kernel
theorem d_M_caught_66 : decode c_M_caught 66 = .ok (.iconst 1, 1) := by decide +kernel
theorem d_M_caught_67 : decode c_M_caught 67 = .ok (.goto 4, 3) := by decide +kernel
theorem d_M_caught_70 : decode c_M_caught 70 = .ok (.iconst 0, 1) := by decide +kernel
theorem d_M_caught_71 : decode c_M_caught 71 = .ok (.istore 4, 2) := by decide +kernel
theorem d_M_caught_73 : decode c_M_caught 73 = .ok (.aload_n 0, 1) := by decide +kernel
theorem d_M_caught_74 : decode c_M_caught 74 = .ok (.getfield 17, 3) := by decide +kernel
theorem d_M_caught_77 : decode c_M_caught 77 = .ok (.iconst 3, 1) := by decide +kernel
theorem d_M_caught_78 : decode c_M_caught 78 = .ok (.iload_n 1, 1) := by decide +kernel
theorem d_M_caught_79 : decode c_M_caught 79 = .ok (.imul, 1) := by decide +kernel
theorem d_M_caught_80 : decode c_M_caught 80 = .ok (.iload_n 2, 1) := by decide +kernel
theorem d_M_caught_81 : decode c_M_caught 81 = .ok (.iadd, 1) := by decide +kernel
theorem d_M_caught_82 : decode c_M_caught 82 = .ok (.iload_n 3, 1) := by decide +kernel
theorem d_M_caught_83 : decode c_M_caught 83 = .ok (.iastore, 1) := by decide +kernel
theorem d_M_caught_84 : decode c_M_caught 84 = .ok (.iload 4, 2) := by decide +kernel
theorem d_M_caught_86 : decode c_M_caught 86 = .ok (.ireturn, 1) := by decide +kernel
theorem d_M_out_0 : decode c_M_out 0 = .ok (.aload_n 0, 1) := by decide +kernel
theorem d_M_out_1 : decode c_M_out 1 = .ok (.iload_n 1, 1) := by decide +kernel
theorem d_M_out_2 : decode c_M_out 2 = .ok (.iconst 4, 1) := by decide +kernel
theorem d_M_out_3 : decode c_M_out 3 = .ok (.invokestatic 59, 3) := by decide +kernel
theorem d_M_out_6 : decode c_M_out 6 = .ok (.ifCond .eq 7, 3) := by decide +kernel
theorem d_M_out_9 : decode c_M_out 9 = .ok (.iconst 0, 1) := by decide +kernel
theorem d_M_out_10 : decode c_M_out 10 = .ok (.goto 4, 3) := by decide +kernel
theorem d_M_out_13 : decode c_M_out 13 = .ok (.iconst 1, 1) := by decide +kernel
theorem d_M_out_14 : decode c_M_out 14 = .ok (.putfield 55, 3) := by decide +kernel
theorem d_M_out_17 : decode c_M_out 17 = .ok (.aload_n 0, 1) := by decide +kernel
theorem d_M_out_18 : decode c_M_out 18 = .ok (.getfield 55, 3) := by decide +kernel
theorem d_M_out_21 : decode c_M_out 21 = .ok (.ifCond .le 5, 3) := by decide +kernel
theorem d_M_out_24 : decode c_M_out 24 = .ok (.iconst 0, 1) := by decide +kernel
theorem d_M_out_25 : decode c_M_out 25 = .ok (.ireturn, 1) := by decide +kernel
theorem d_M_out_26 : decode c_M_out 26 = .ok (.aload_n 0, 1) := by decide +kernel
theorem d_M_out_27 : decode c_M_out 27 = .ok (.getfield 32, 3) := by decide +kernel
theorem d_M_out_30 : decode c_M_out 30 = .ok (.iload_n 1, 1) := by decide +kernel
theorem d_M_out_31 : decode c_M_out 31 = .ok (.baload, 1) := by decide +kernel
theorem d_M_out_32 : decode c_M_out 32 = .ok (.iload_n 2, 1) := by decide +kernel
theorem d_M_out_33 : decode c_M_out 33 = .ok (.if_icmp .eq 7, 3) := by decide +kernel
theorem d_M_out_36 : decode c_M_out 36 = .ok (.iconst 1, 1) := by decide +kernel
theorem d_M_out_37 : decode c_M_out 37 = .ok (.goto 4, 3) := by decide +kernel
theorem d_M_out_40 : decode c_M_out 40 = .ok (.iconst 0, 1) := by decide +kernel
theorem d_M_out_41 : decode c_M_out 41 = .ok (.istore_n 3, 1) := by decide +kernel
theorem d_M_out_42 : decode c_M_out 42 = .ok (.aload_n 0, 1) := by decide +kernel
theorem d_M_out_43 : decode c_M_out 43 = .ok (.getfield 32, 3) := by decide +kernel
theorem d_M_out_46 : decode c_M_out 46 = .ok (.iload_n 1, 1) := by decide +kernel
theorem d_M_out_47 : decode c_M_out 47 = .ok (.iload_n 2, 1) := by decide +kernel
theorem d_M_out_48 : decode c_M_out 48 = .ok (.bastore, 1) := by decide +kernel
theorem d_M_out_49 : decode c_M_out 49 = .ok (.iload_n 3, 1) := by decide +kernel
theorem d_M_out_50 : decode c_M_out 50 = .ok (.ireturn, 1) := by decide +kernel
theorem d_M_arm_0 : decode c_M_arm 0 = .ok (.aload_n 0, 1) := by decide +kernel
theorem d_M_arm_1 : decode c_M_arm 1 = .ok (.iload_n 1, 1) := by decide +kernel
theorem d_M_arm_2 : decode c_M_arm 2 = .ok (.aload_n 0, 1) := by decide +kernel
theorem d_M_arm_3 : decode c_M_arm 3 = .ok (.getfield 63, 3) := by decide +kernel
theorem d_M_arm_6 : decode c_M_arm 6 = .ok (.invokestatic 59, 3) := by decide +kernel
theorem d_M_arm_9 : decode c_M_arm 9 = .ok (.ifCond .eq 7, 3) := by decide +kernel
theorem d_M_arm_12 : decode c_M_arm 12 = .ok (.iconst 0, 1) := by decide +kernel
theorem d_M_arm_13 : decode c_M_arm 13 = .ok (.goto 4, 3) := by decide +kernel
theorem d_M_arm_16 : decode c_M_arm 16 = .ok (.iconst 1, 1) := by decide +kernel
theorem d_M_arm_17 : decode c_M_arm 17 = .ok (.putfield 55, 3) := by decide +kernel
theorem d_M_arm_20 : decode c_M_arm 20 = .ok (.aload_n 0, 1) := by decide +kernel
theorem d_M_arm_21 : decode c_M_arm 21 = .ok (.getfield 55, 3) := by decide +kernel
theorem d_M_arm_24 : decode c_M_arm 24 = .ok (.ifCond .ne 16, 3) := by decide +kernel
theorem d_M_arm_27 : decode c_M_arm 27 = .ok (.aload_n 0, 1) := by decide +kernel
theorem d_M_arm_28 : decode c_M_arm 28 = .ok (.getfield 13, 3) := by decide +kernel
theorem d_M_arm_31 : decode c_M_arm 31 = .ok (.iload_n 1, 1) := by decide +kernel
theorem d_M_arm_32 : decode c_M_arm 32 = .ok (.baload, 1) := by decide +kernel
theorem d_M_arm_33 : decode c_M_arm 33 = .ok (.ifCond .eq 7, 3) := by decide +kernel
theorem d_M_arm_36 : decode c_M_arm 36 = .ok (.iconst 1, 1) := by decide +kernel
theorem d_M_arm_37 : decode c_M_arm 37 = .ok (.goto 4, 3) := by decide +kernel
theorem d_M_arm_40 : decode c_M_arm 40 = .ok (.iconst 0, 1) := by decide +kernel
theorem d_M_arm_41 : decode c_M_arm 41 = .ok (.ireturn, 1) := by decide +kernel
theorem d_M_pair_0 : decode c_M_pair 0 = .ok (.aload_n 0, 1) := by decide +kernel
theorem d_M_pair_1 : decode c_M_pair 1 = .ok (.iload_n 1, 1) := by decide +kernel
theorem d_M_pair_2 : decode c_M_pair 2 = .ok (.aload_n 0, 1) := by decide +kernel
theorem d_M_pair_3 : decode c_M_pair 3 = .ok (.getfield 70, 3) := by decide +kernel
theorem d_M_pair_6 : decode c_M_pair 6 = .ok (.invokestatic 59, 3) := by decide +kernel
theorem d_M_pair_9 : decode c_M_pair 9 = .ok (.ifCond .eq 15, 3) := by decide +kernel
theorem d_M_pair_12 : decode c_M_pair 12 = .ok (.iload_n 2, 1) := by decide +kernel
theorem d_M_pair_13 : decode c_M_pair 13 = .ok (.iconst 3, 1) := by decide +kernel
theorem d_M_pair_14 : decode c_M_pair 14 = .ok (.invokestatic 59, 3) := by decide +kernel
theorem d_M_pair_17 : decode c_M_pair 17 = .ok (.ifCond .eq 7, 3) := by decide +kernel
theorem d_M_pair_20 : decode c_M_pair 20 = .ok (.iconst 0, 1) := by decide +kernel
theorem d_M_pair_21 : decode c_M_pair 21 = .ok (.goto 4, 3) := by decide +kernel
theorem d_M_pair_24 : decode c_M_pair 24 = .ok (.iconst 1, 1) := by decide +kernel
theorem d_M_pair_25 : decode c_M_pair 25 = .ok (.putfield 55, 3) := by decide +kernel
theorem d_M_pair_28 : decode c_M_pair 28 = .ok (.aload_n 0, 1) := by decide +kernel
theorem d_M_pair_29 : decode c_M_pair 29 = .ok (.getfield 55, 3) := by decide +kernel
theorem d_M_pair_32 : decode c_M_pair 32 = .ok (.ifCond .le 5, 3) := by decide +kernel
theorem d_M_pair_35 : decode c_M_pair 35 = .ok (.iconst 0, 1) := by decide +kernel
theorem d_M_pair_36 : decode c_M_pair 36 = .ok (.ireturn, 1) := by decide +kernel
theorem d_M_pair_37 : decode c_M_pair 37 = .ok (.aload_n 0, 1) := by decide +kernel
theorem d_M_pair_38 : decode c_M_pair 38 = .ok (.getfield 13, 3) := by decide +kernel
theorem d_M_pair_41 : decode c_M_pair 41 = .ok (.aload_n 0, 1) := by decide +kernel
theorem d_M_pair_42 : decode c_M_pair 42 = .ok (.getfield 29, 3) := by decide +kernel
theorem d_M_pair_45 : decode c_M_pair 45 = .ok (.iload_n 1, 1) := by decide +kernel
theorem d_M_pair_46 : decode c_M_pair 46 = .ok (.iaload, 1) := by decide +kernel
theorem d_M_pair_47 : decode c_M_pair 47 = .ok (.baload, 1) := by decide +kernel
theorem d_M_pair_48 : decode c_M_pair 48 = .ok (.istore_n 3, 1) := by decide +kernel
theorem d_M_pair_49 : decode c_M_pair 49 = .ok (.iload_n 2, 1) := by decide +kernel
theorem d_M_pair_50 : decode c_M_pair 50 = .ok (.iconst 2, 1) := by decide +kernel
theorem d_M_pair_51 : decode c_M_pair 51 = .ok (.if_icmp .ne 17, 3) := by decide +kernel
theorem d_M_pair_54 : decode c_M_pair 54 = .ok (.aload_n 0, 1) := by decide +kernel
theorem d_M_pair_55 : decode c_M_pair 55 = .ok (.getfield 7, 3) := by decide +kernel
theorem d_M_pair_58 : decode c_M_pair 58 = .ok (.aload_n 0, 1) := by decide +kernel
theorem d_M_pair_59 : decode c_M_pair 59 = .ok (.getfield 26, 3) := by decide +kernel
theorem d_M_pair_62 : decode c_M_pair 62 = .ok (.iload_n 1, 1) := by decide +kernel
theorem d_M_pair_63 : decode c_M_pair 63 = .ok (.iaload, 1) := by decide +kernel
theorem d_M_pair_64 : decode c_M_pair 64 = .ok (.iaload, 1) := by decide +kernel
theorem d_M_pair_65 : decode c_M_pair 65 = .ok (.goto 31, 3) := by decide +kernel
theorem d_M_pair_68 : decode c_M_pair 68 = .ok (.iload_n 2, 1) := by decide +kernel
theorem d_M_pair_69 : decode c_M_pair 69 = .ok (.ifCond .ne 7, 3) := by decide +kernel
theorem d_M_pair_72 : decode c_M_pair 72 = .ok (.iconst 1, 1) := by decide +kernel
theorem d_M_pair_73 : decode c_M_pair 73 = .ok (.goto 4, 3) := by decide +kernel
theorem d_M_pair_76 : decode c_M_pair 76 = .ok (.iconst 0, 1) := by decide +kernel
theorem d_M_pair_77 : decode c_M_pair 77 = .ok (.iload_n 3, 1) := by decide +kernel
theorem d_M_pair_78 : decode c_M_pair 78 = .ok (.if_icmp .ne 12, 3) := by decide +kernel
theorem d_M_pair_81 : decode c_M_pair 81 = .ok (.aload_n 0, 1) := by decide +kernel
theorem d_M_pair_82 : decode c_M_pair 82 = .ok (.getfield 29, 3) := by decide +kernel
theorem d_M_pair_85 : decode c_M_pair 85 = .ok (.iload_n 1, 1) := by decide +kernel
theorem d_M_pair_86 : decode c_M_pair 86 = .ok (.iaload, 1) := by decide +kernel
theorem d_M_pair_87 : decode c_M_pair 87 = .ok (.goto 9, 3) := by decide +kernel
theorem d_M_pair_90 : decode c_M_pair 90 = .ok (.aload_n 0, 1) := by decide +kernel
theorem d_M_pair_91 : decode c_M_pair 91 = .ok (.getfield 26, 3) := by decide +kernel
theorem d_M_pair_94 : decode c_M_pair 94 = .ok (.iload_n 1, 1) := by decide +kernel
theorem d_M_pair_95 : decode c_M_pair 95 = .ok (.iaload, 1) := by decide +kernel
theorem d_M_pair_96 : decode c_M_pair 96 = .ok (.ireturn, 1) := by decide +kernel
theorem d_M_pairs_0 : decode c_M_pairs 0 = .ok (.aload_n 0, 1) := by decide +kernel
theorem d_M_pairs_1 : decode c_M_pairs 1 = .ok (.iconst 0, 1) := by decide +kernel
theorem d_M_pairs_2 : decode c_M_pairs 2 = .ok (.putfield 55, 3) := by decide +kernel
theorem d_M_pairs_5 : decode c_M_pairs 5 = .ok (.aload_n 0, 1) := by decide +kernel
theorem d_M_pairs_6 : decode c_M_pairs 6 = .ok (.getfield 70, 3) := by decide +kernel
theorem d_M_pairs_9 : decode c_M_pairs 9 = .ok (.ireturn, 1) := by decide +kernel
theorem d_M_by_0 : decode c_M_by 0 = .ok (.aload_n 0, 1) := by decide +kernel
theorem d_M_by_1 : decode c_M_by 1 = .ok (.getfield 17, 3) := by decide +kernel
theorem d_M_by_4 : decode c_M_by 4 = .ok (.iconst 3, 1) := by decide +kernel
theorem d_M_by_5 : decode c_M_by 5 = .ok (.aload_n 0, 1) := by decide +kernel
theorem d_M_by_6 : decode c_M_by 6 = .ok (.getfield 26, 3) := by decide +kernel
theorem d_M_by_9 : decode c_M_by 9 = .ok (.iload_n 1, 1) := by decide +kernel
theorem d_M_by_10 : decode c_M_by 10 = .ok (.iaload, 1) := by decide +kernel
theorem d_M_by_11 : decode c_M_by 11 = .ok (.imul, 1) := by decide +kernel
theorem d_M_by_12 : decode c_M_by 12 = .ok (.iload_n 2, 1) := by decide +kernel
theorem d_M_by_13 : decode c_M_by 13 = .ok (.iadd, 1) := by decide +kernel
theorem d_M_by_14 : decode c_M_by 14 = .ok (.iaload, 1) := by decide +kernel
theorem d_M_by_15 : decode c_M_by 15 = .ok (.aload_n 0, 1) := by decide +kernel
theorem d_M_by_16 : decode c_M_by 16 = .ok (.getfield 17, 3) := by decide +kernel
theorem d_M_by_19 : decode c_M_by 19 = .ok (.iconst 3, 1) := by decide +kernel
theorem d_M_by_20 : decode c_M_by 20 = .ok (.aload_n 0, 1) := by decide +kernel
theorem d_M_by_21 : decode c_M_by 21 = .ok (.getfield 29, 3) := by decide +kernel
theorem d_M_by_24 : decode c_M_by 24 = .ok (.iload_n 1, 1) := by decide +kernel
theorem d_M_by_25 : decode c_M_by 25 = .ok (.iaload, 1) := by decide +kernel
theorem d_M_by_26 : decode c_M_by 26 = .ok (.imul, 1) := by decide +kernel
theorem d_M_by_27 : decode c_M_by 27 = .ok (.iload_n 2, 1) := by decide +kernel
theorem d_M_by_28 : decode c_M_by 28 = .ok (.iadd, 1) := by decide +kernel
theorem d_M_by_29 : decode c_M_by 29 = .ok (.iaload, 1) := by decide +kernel
theorem d_M_by_30 : decode c_M_by 30 = .ok (.isub, 1) := by decide +kernel
theorem d_M_by_31 : decode c_M_by 31 = .ok (.istore_n 3, 1) := by decide +kernel
theorem d_M_by_32 : decode c_M_by 32 = .ok (.aload_n 0, 1) := by decide +kernel
theorem d_M_by_33 : decode c_M_by 33 = .ok (.getfield 13, 3) := by decide +kernel
theorem d_M_by_36 : decode c_M_by 36 = .ok (.aload_n 0, 1) := by decide +kernel
theorem d_M_by_37 : decode c_M_by 37 = .ok (.getfield 26, 3) := by decide +kernel
theorem d_M_by_40 : decode c_M_by 40 = .ok (.iload_n 1, 1) := by decide +kernel
theorem d_M_by_41 : decode c_M_by 41 = .ok (.iaload, 1) := by decide +kernel
theorem d_M_by_42 : decode c_M_by 42 = .ok (.baload, 1) := by decide +kernel
theorem d_M_by_43 : decode c_M_by 43 = .ok (.ifCond .eq 7, 3) := by decide +kernel
theorem d_M_by_46 : decode c_M_by 46 = .ok (.iload_n 3, 1) := by decide +kernel
theorem d_M_by_47 : decode c_M_by 47 = .ok (.goto 5, 3) := by decide +kernel
theorem d_M_by_50 : decode c_M_by 50 = .ok (.iload_n 3, 1) := by decide +kernel
theorem d_M_by_51 : decode c_M_by 51 = .ok (.ineg, 1) := by decide +kernel
theorem d_M_by_52 : decode c_M_by 52 = .ok (.ireturn, 1) := by decide +kernel
theorem d_M_isKept_0 : decode c_M_isKept 0 = .ok (.aload_n 0, 1) := by decide +kernel
theorem d_M_isKept_1 : decode c_M_isKept 1 = .ok (.getfield 17, 3) := by decide +kernel
theorem d_M_isKept_4 : decode c_M_isKept 4 = .ok (.iconst 3, 1) := by decide +kernel
theorem d_M_isKept_5 : decode c_M_isKept 5 = .ok (.aload_n 0, 1) := by decide +kernel
theorem d_M_isKept_6 : decode c_M_isKept 6 = .ok (.getfield 26, 3) := by decide +kernel
theorem d_M_isKept_9 : decode c_M_isKept 9 = .ok (.iload_n 1, 1) := by decide +kernel
theorem d_M_isKept_10 : decode c_M_isKept 10 = .ok (.iaload, 1) := by decide +kernel
theorem d_M_isKept_11 : decode c_M_isKept 11 = .ok (.imul, 1) := by decide +kernel
theorem d_M_isKept_12 : decode c_M_isKept 12 = .ok (.iload_n 2, 1) := by decide +kernel
theorem d_M_isKept_13 : decode c_M_isKept 13 = .ok (.iadd, 1) := by decide +kernel
theorem d_M_isKept_14 : decode c_M_isKept 14 = .ok (.iaload, 1) := by decide +kernel
theorem d_M_isKept_15 : decode c_M_isKept 15 = .ok (.ifCond .gt 21, 3) := by decide +kernel
theorem d_M_isKept_18 : decode c_M_isKept 18 = .ok (.aload_n 0, 1) := by decide +kernel
theorem d_M_isKept_19 : decode c_M_isKept 19 = .ok (.getfield 17, 3) := by decide +kernel
theorem d_M_isKept_22 : decode c_M_isKept 22 = .ok (.iconst 3, 1) := by decide +kernel
theorem d_M_isKept_23 : decode c_M_isKept 23 = .ok (.aload_n 0, 1) := by decide +kernel
theorem d_M_isKept_24 : decode c_M_isKept 24 = .ok (.getfield 29, 3) := by decide +kernel
theorem d_M_isKept_27 : decode c_M_isKept 27 = .ok (.iload_n 1, 1) := by decide +kernel
theorem d_M_isKept_28 : decode c_M_isKept 28 = .ok (.iaload, 1) := by decide +kernel
theorem d_M_isKept_29 : decode c_M_isKept 29 = .ok (.imul, 1) := by decide +kernel
theorem d_M_isKept_30 : decode c_M_isKept 30 = .ok (.iload_n 2, 1) := by decide +kernel
theorem d_M_isKept_31 : decode c_M_isKept 31 = .ok (.iadd, 1) := by decide +kernel
theorem d_M_isKept_32 : decode c_M_isKept 32 = .ok (.iaload, 1) := by decide +kernel
theorem d_M_isKept_33 : decode c_M_isKept 33 = .ok (.ifCond .le 7, 3) := by decide +kernel
theorem d_M_isKept_36 : decode c_M_isKept 36 = .ok (.iconst 1, 1) := by decide +kernel
theorem d_M_isKept_37 : decode c_M_isKept 37 = .ok (.goto 4, 3) := by decide +kernel
theorem d_M_isKept_40 : decode c_M_isKept 40 = .ok (.iconst 0, 1) := by decide +kernel
theorem d_M_isKept_41 : decode c_M_isKept 41 = .ok (.istore_n 3, 1) := by decide +kernel
theorem d_M_isKept_42 : decode c_M_isKept 42 = .ok (.iload_n 3, 1) := by decide +kernel
theorem d_M_isKept_43 : decode c_M_isKept 43 = .ok (.ifCond .eq 26, 3) := by decide +kernel
theorem d_M_isKept_46 : decode c_M_isKept 46 = .ok (.aload_n 0, 1) := by decide +kernel
theorem d_M_isKept_47 : decode c_M_isKept 47 = .ok (.getfield 32, 3) := by decide +kernel
theorem d_M_isKept_50 : decode c_M_isKept 50 = .ok (.aload_n 0, 1) := by decide +kernel
theorem d_M_isKept_51 : decode c_M_isKept 51 = .ok (.getfield 7, 3) := by decide +kernel
theorem d_M_isKept_54 : decode c_M_isKept 54 = .ok (.aload_n 0, 1) := by decide +kernel
theorem d_M_isKept_55 : decode c_M_isKept 55 = .ok (.getfield 26, 3) := by decide +kernel
theorem d_M_isKept_58 : decode c_M_isKept 58 = .ok (.iload_n 1, 1) := by decide +kernel
theorem d_M_isKept_59 : decode c_M_isKept 59 = .ok (.iaload, 1) := by decide +kernel
theorem d_M_isKept_60 : decode c_M_isKept 60 = .ok (.iaload, 1) := by decide +kernel
theorem d_M_isKept_61 : decode c_M_isKept 61 = .ok (.baload, 1) := by decide +kernel
theorem d_M_isKept_62 : decode c_M_isKept 62 = .ok (.ifCond .ne 7, 3) := by decide +kernel
theorem d_M_isKept_65 : decode c_M_isKept 65 = .ok (.iconst 1, 1) := by decide +kernel
theorem d_M_isKept_66 : decode c_M_isKept 66 = .ok (.goto 4, 3) := by decide +kernel
theorem d_M_isKept_69 : decode c_M_isKept 69 = .ok (.iconst 0, 1) := by decide +kernel
theorem d_M_isKept_70 : decode c_M_isKept 70 = .ok (.ireturn, 1) := by decide +kernel
theorem d_M_difference_0 : decode c_M_difference 0 = .ok (.aload_n 0, 1) := by decide +kernel
theorem d_M_difference_1 : decode c_M_difference 1 = .ok (.iload_n 1, 1) := by decide +kernel
theorem d_M_difference_2 : decode c_M_difference 2 = .ok (.aload_n 0, 1) := by decide +kernel
theorem d_M_difference_3 : decode c_M_difference 3 = .ok (.getfield 70, 3) := by decide +kernel
theorem d_M_difference_6 : decode c_M_difference 6 = .ok (.invokestatic 59, 3) := by decide +kernel
theorem d_M_difference_9 : decode c_M_difference 9 = .ok (.ifCond .eq 15, 3) := by decide +kernel
theorem d_M_difference_12 : decode c_M_difference 12 = .ok (.iload_n 2, 1) := by decide +kernel
theorem d_M_difference_13 : decode c_M_difference 13 = .ok (.iconst 3, 1) := by decide +kernel
theorem d_M_difference_14 : decode c_M_difference 14 = .ok (.invokestatic 59, 3) := by decide +kernel
theorem d_M_difference_17 : decode c_M_difference 17 = .ok (.ifCond .eq 7, 3) := by decide +kernel
theorem d_M_difference_20 : decode c_M_difference 20 = .ok (.iconst 0, 1) := by decide +kernel
theorem d_M_difference_21 : decode c_M_difference 21 = .ok (.goto 4, 3) := by decide +kernel
theorem d_M_difference_24 : decode c_M_difference 24 = .ok (.iconst 1, 1) := by decide +kernel
theorem d_M_difference_25 : decode c_M_difference 25 = .ok (.putfield 55, 3) := by decide +kernel
theorem d_M_difference_28 : decode c_M_difference 28 = .ok (.aload_n 0, 1) := by decide +kernel
theorem d_M_difference_29 : decode c_M_difference 29 = .ok (.getfield 55, 3) := by decide +kernel
theorem d_M_difference_32 : decode c_M_difference 32 = .ok (.ifCond .le 7, 3) := by decide +kernel
theorem d_M_difference_35 : decode c_M_difference 35 = .ok (.iconst 0, 1) := by decide +kernel
theorem d_M_difference_36 : decode c_M_difference 36 = .ok (.goto 9, 3) := by decide +kernel
theorem d_M_difference_39 : decode c_M_difference 39 = .ok (.aload_n 0, 1) := by decide +kernel
theorem d_M_difference_40 : decode c_M_difference 40 = .ok (.iload_n 1, 1) := by decide +kernel
theorem d_M_difference_41 : decode c_M_difference 41 = .ok (.iload_n 2, 1) := by decide +kernel
theorem d_M_difference_42 : decode c_M_difference 42 = .ok (.invokevirtual 73, 3) := by decide +kernel
theorem d_M_difference_45 : decode c_M_difference 45 = .ok (.ireturn, 1) := by decide +kernel
theorem d_M_keptOf_0 : decode c_M_keptOf 0 = .ok (.iconst 0, 1) := by decide +kernel
theorem d_M_keptOf_1 : decode c_M_keptOf 1 = .ok (.istore_n 2, 1) := by decide +kernel
theorem d_M_keptOf_2 : decode c_M_keptOf 2 = .ok (.iconst 0, 1) := by decide +kernel
theorem d_M_keptOf_3 : decode c_M_keptOf 3 = .ok (.istore_n 3, 1) := by decide +kernel
theorem d_M_keptOf_4 : decode c_M_keptOf 4 = .ok (.iload_n 3, 1) := by decide +kernel
theorem d_M_keptOf_5 : decode c_M_keptOf 5 = .ok (.aload_n 0, 1) := by decide +kernel
theorem d_M_keptOf_6 : decode c_M_keptOf 6 = .ok (.getfield 70, 3) := by decide +kernel
theorem d_M_keptOf_9 : decode c_M_keptOf 9 = .ok (.if_icmp .ge 26, 3) := by decide +kernel
theorem d_M_keptOf_12 : decode c_M_keptOf 12 = .ok (.iload_n 2, 1) := by decide +kernel
theorem d_M_keptOf_13 : decode c_M_keptOf 13 = .ok (.aload_n 0, 1) := by decide +kernel
theorem d_M_keptOf_14 : decode c_M_keptOf 14 = .ok (.iload_n 3, 1) := by decide +kernel
theorem d_M_keptOf_15 : decode c_M_keptOf 15 = .ok (.iload_n 1, 1) := by decide +kernel
theorem d_M_keptOf_16 : decode c_M_keptOf 16 = .ok (.invokevirtual 77, 3) := by decide +kernel
theorem d_M_keptOf_19 : decode c_M_keptOf 19 = .ok (.ifCond .eq 7, 3) := by decide +kernel
theorem d_M_keptOf_22 : decode c_M_keptOf 22 = .ok (.iconst 1, 1) := by decide +kernel
theorem d_M_keptOf_23 : decode c_M_keptOf 23 = .ok (.goto 4, 3) := by decide +kernel
theorem d_M_keptOf_26 : decode c_M_keptOf 26 = .ok (.iconst 0, 1) := by decide +kernel
theorem d_M_keptOf_27 : decode c_M_keptOf 27 = .ok (.iadd, 1) := by decide +kernel
theorem d_M_keptOf_28 : decode c_M_keptOf 28 = .ok (.istore_n 2, 1) := by decide +kernel
theorem d_M_keptOf_29 : decode c_M_keptOf 29 = .ok (.iinc 3 1, 3) := by decide +kernel
theorem d_M_keptOf_32 : decode c_M_keptOf 32 = .ok (.goto (-28), 3) := by decide +kernel
theorem d_M_keptOf_35 : decode c_M_keptOf 35 = .ok (.iload_n 2, 1) := by decide +kernel
theorem d_M_keptOf_36 : decode c_M_keptOf 36 = .ok (.ireturn, 1) := by decide +kernel
theorem d_M_kept_0 : decode c_M_kept 0 = .ok (.aload_n 0, 1) := by decide +kernel
theorem d_M_kept_1 : decode c_M_kept 1 = .ok (.iload_n 1, 1) := by decide +kernel
theorem d_M_kept_2 : decode c_M_kept 2 = .ok (.iconst 3, 1) := by decide +kernel
theorem d_M_kept_3 : decode c_M_kept 3 = .ok (.invokestatic 59, 3) := by decide +kernel
theorem d_M_kept_6 : decode c_M_kept 6 = .ok (.ifCond .eq 7, 3) := by decide +kernel
theorem d_M_kept_9 : decode c_M_kept 9 = .ok (.iconst 0, 1) := by decide +kernel
theorem d_M_kept_10 : decode c_M_kept 10 = .ok (.goto 4, 3) := by decide +kernel
theorem d_M_kept_13 : decode c_M_kept 13 = .ok (.iconst 1, 1) := by decide +kernel
theorem d_M_kept_14 : decode c_M_kept 14 = .ok (.putfield 55, 3) := by decide +kernel
theorem d_M_kept_17 : decode c_M_kept 17 = .ok (.aload_n 0, 1) := by decide +kernel
theorem d_M_kept_18 : decode c_M_kept 18 = .ok (.getfield 55, 3) := by decide +kernel
theorem d_M_kept_21 : decode c_M_kept 21 = .ok (.ifCond .le 7, 3) := by decide +kernel
theorem d_M_kept_24 : decode c_M_kept 24 = .ok (.iconst 0, 1) := by decide +kernel
theorem d_M_kept_25 : decode c_M_kept 25 = .ok (.goto 8, 3) := by decide +kernel
theorem d_M_kept_28 : decode c_M_kept 28 = .ok (.aload_n 0, 1) := by decide +kernel
theorem d_M_kept_29 : decode c_M_kept 29 = .ok (.iload_n 1, 1) := by decide +kernel
theorem d_M_kept_30 : decode c_M_kept 30 = .ok (.invokevirtual 80, 3) := by decide +kernel
theorem d_M_kept_33 : decode c_M_kept 33 = .ok (.ireturn, 1) := by decide +kernel
theorem d_M_sumOf_0 : decode c_M_sumOf 0 = .ok (.iconst 0, 1) := by decide +kernel
theorem d_M_sumOf_1 : decode c_M_sumOf 1 = .ok (.istore_n 2, 1) := by decide +kernel
theorem d_M_sumOf_2 : decode c_M_sumOf 2 = .ok (.iconst 0, 1) := by decide +kernel
theorem d_M_sumOf_3 : decode c_M_sumOf 3 = .ok (.istore_n 3, 1) := by decide +kernel
theorem d_M_sumOf_4 : decode c_M_sumOf 4 = .ok (.iload_n 3, 1) := by decide +kernel
theorem d_M_sumOf_5 : decode c_M_sumOf 5 = .ok (.aload_n 0, 1) := by decide +kernel
theorem d_M_sumOf_6 : decode c_M_sumOf 6 = .ok (.getfield 70, 3) := by decide +kernel
theorem d_M_sumOf_9 : decode c_M_sumOf 9 = .ok (.if_icmp .ge 31, 3) := by decide +kernel
theorem d_M_sumOf_12 : decode c_M_sumOf 12 = .ok (.iload_n 2, 1) := by decide +kernel
theorem d_M_sumOf_13 : decode c_M_sumOf 13 = .ok (.aload_n 0, 1) := by decide +kernel
theorem d_M_sumOf_14 : decode c_M_sumOf 14 = .ok (.iload_n 3, 1) := by decide +kernel
theorem d_M_sumOf_15 : decode c_M_sumOf 15 = .ok (.iload_n 1, 1) := by decide +kernel
theorem d_M_sumOf_16 : decode c_M_sumOf 16 = .ok (.invokevirtual 77, 3) := by decide +kernel
theorem d_M_sumOf_19 : decode c_M_sumOf 19 = .ok (.ifCond .eq 12, 3) := by decide +kernel
theorem d_M_sumOf_22 : decode c_M_sumOf 22 = .ok (.aload_n 0, 1) := by decide +kernel
theorem d_M_sumOf_23 : decode c_M_sumOf 23 = .ok (.iload_n 3, 1) := by decide +kernel
theorem d_M_sumOf_24 : decode c_M_sumOf 24 = .ok (.iload_n 1, 1) := by decide +kernel
theorem d_M_sumOf_25 : decode c_M_sumOf 25 = .ok (.invokevirtual 73, 3) := by decide +kernel
theorem d_M_sumOf_28 : decode c_M_sumOf 28 = .ok (.goto 4, 3) := by decide +kernel
theorem d_M_sumOf_31 : decode c_M_sumOf 31 = .ok (.iconst 0, 1) := by decide +kernel
theorem d_M_sumOf_32 : decode c_M_sumOf 32 = .ok (.iadd, 1) := by decide +kernel
theorem d_M_sumOf_33 : decode c_M_sumOf 33 = .ok (.istore_n 2, 1) := by decide +kernel
theorem d_M_sumOf_34 : decode c_M_sumOf 34 = .ok (.iinc 3 1, 3) := by decide +kernel
theorem d_M_sumOf_37 : decode c_M_sumOf 37 = .ok (.goto (-33), 3) := by decide +kernel
theorem d_M_sumOf_40 : decode c_M_sumOf 40 = .ok (.iload_n 2, 1) := by decide +kernel
theorem d_M_sumOf_41 : decode c_M_sumOf 41 = .ok (.ireturn, 1) := by decide +kernel
theorem d_M_sum_0 : decode c_M_sum 0 = .ok (.aload_n 0, 1) := by decide +kernel
theorem d_M_sum_1 : decode c_M_sum 1 = .ok (.iload_n 1, 1) := by decide +kernel
theorem d_M_sum_2 : decode c_M_sum 2 = .ok (.iconst 3, 1) := by decide +kernel
theorem d_M_sum_3 : decode c_M_sum 3 = .ok (.invokestatic 59, 3) := by decide +kernel
theorem d_M_sum_6 : decode c_M_sum 6 = .ok (.ifCond .eq 7, 3) := by decide +kernel
theorem d_M_sum_9 : decode c_M_sum 9 = .ok (.iconst 0, 1) := by decide +kernel
theorem d_M_sum_10 : decode c_M_sum 10 = .ok (.goto 4, 3) := by decide +kernel
theorem d_M_sum_13 : decode c_M_sum 13 = .ok (.iconst 1, 1) := by decide +kernel
theorem d_M_sum_14 : decode c_M_sum 14 = .ok (.putfield 55, 3) := by decide +kernel
theorem d_M_sum_17 : decode c_M_sum 17 = .ok (.aload_n 0, 1) := by decide +kernel
theorem d_M_sum_18 : decode c_M_sum 18 = .ok (.getfield 55, 3) := by decide +kernel
theorem d_M_sum_21 : decode c_M_sum 21 = .ok (.ifCond .le 7, 3) := by decide +kernel
theorem d_M_sum_24 : decode c_M_sum 24 = .ok (.iconst 0, 1) := by decide +kernel
theorem d_M_sum_25 : decode c_M_sum 25 = .ok (.goto 8, 3) := by decide +kernel
theorem d_M_sum_28 : decode c_M_sum 28 = .ok (.aload_n 0, 1) := by decide +kernel
theorem d_M_sum_29 : decode c_M_sum 29 = .ok (.iload_n 1, 1) := by decide +kernel
theorem d_M_sum_30 : decode c_M_sum 30 = .ok (.invokevirtual 84, 3) := by decide +kernel
theorem d_M_sum_33 : decode c_M_sum 33 = .ok (.ireturn, 1) := by decide +kernel
theorem d_M_part_0 : decode c_M_part 0 = .ok (.lload_n 0, 1) := by decide +kernel
theorem d_M_part_1 : decode c_M_part 1 = .ok (.lconst 0, 1) := by decide +kernel
theorem d_M_part_2 : decode c_M_part 2 = .ok (.lcmp, 1) := by decide +kernel
theorem d_M_part_3 : decode c_M_part 3 = .ok (.ifCond .ge 8, 3) := by decide +kernel
theorem d_M_part_6 : decode c_M_part 6 = .ok (.lload_n 0, 1) := by decide +kernel
theorem d_M_part_7 : decode c_M_part 7 = .ok (.lneg, 1) := by decide +kernel
theorem d_M_part_8 : decode c_M_part 8 = .ok (.goto 4, 3) := by decide +kernel
theorem d_M_part_11 : decode c_M_part 11 = .ok (.lload_n 0, 1) := by decide +kernel
theorem d_M_part_12 : decode c_M_part 12 = .ok (.lstore 5, 2) := by decide +kernel
theorem d_M_part_14 : decode c_M_part 14 = .ok (.lload_n 2, 1) := by decide +kernel
theorem d_M_part_15 : decode c_M_part 15 = .ok (.lstore 7, 2) := by decide +kernel
theorem d_M_part_17 : decode c_M_part 17 = .ok (.lload 7, 2) := by decide +kernel
theorem d_M_part_19 : decode c_M_part 19 = .ok (.lconst 0, 1) := by decide +kernel
theorem d_M_part_20 : decode c_M_part 20 = .ok (.lcmp, 1) := by decide +kernel
theorem d_M_part_21 : decode c_M_part 21 = .ok (.ifCond .eq 21, 3) := by decide +kernel
theorem d_M_part_24 : decode c_M_part 24 = .ok (.lload 5, 2) := by decide +kernel
theorem d_M_part_26 : decode c_M_part 26 = .ok (.lload 7, 2) := by decide +kernel
theorem d_M_part_28 : decode c_M_part 28 = .ok (.lrem, 1) := by decide +kernel
theorem d_M_part_29 : decode c_M_part 29 = .ok (.lstore 9, 2) := by decide +kernel
theorem d_M_part_31 : decode c_M_part 31 = .ok (.lload 7, 2) := by decide +kernel
theorem d_M_part_33 : decode c_M_part 33 = .ok (.lstore 5, 2) := by decide +kernel
theorem d_M_part_35 : decode c_M_part 35 = .ok (.lload 9, 2) := by decide +kernel
theorem d_M_part_37 : decode c_M_part 37 = .ok (.lstore 7, 2) := by decide +kernel
theorem d_M_part_39 : decode c_M_part 39 = .ok (.goto (-22), 3) := by decide +kernel
theorem d_M_part_42 : decode c_M_part 42 = .ok (.iload 4, 2) := by decide +kernel
theorem d_M_part_44 : decode c_M_part 44 = .ok (.ifCond .ne 10, 3) := by decide +kernel
theorem d_M_part_47 : decode c_M_part 47 = .ok (.lload_n 0, 1) := by decide +kernel
theorem d_M_part_48 : decode c_M_part 48 = .ok (.lload 5, 2) := by decide +kernel
theorem d_M_part_50 : decode c_M_part 50 = .ok (.ldiv, 1) := by decide +kernel
theorem d_M_part_51 : decode c_M_part 51 = .ok (.goto 7, 3) := by decide +kernel
theorem d_M_part_54 : decode c_M_part 54 = .ok (.lload_n 2, 1) := by decide +kernel
theorem d_M_part_55 : decode c_M_part 55 = .ok (.lload 5, 2) := by decide +kernel
theorem d_M_part_57 : decode c_M_part 57 = .ok (.ldiv, 1) := by decide +kernel
theorem d_M_part_58 : decode c_M_part 58 = .ok (.lreturn, 1) := by decide +kernel
theorem d_M_odds_0 : decode c_M_odds 0 = .ok (.aload_n 0, 1) := by decide +kernel
theorem d_M_odds_1 : decode c_M_odds 1 = .ok (.iload_n 1, 1) := by decide +kernel
theorem d_M_odds_2 : decode c_M_odds 2 = .ok (.iconst 3, 1) := by decide +kernel
theorem d_M_odds_3 : decode c_M_odds 3 = .ok (.invokestatic 59, 3) := by decide +kernel
theorem d_M_odds_6 : decode c_M_odds 6 = .ok (.ifCond .eq 15, 3) := by decide +kernel
theorem d_M_odds_9 : decode c_M_odds 9 = .ok (.iload_n 2, 1) := by decide +kernel
theorem d_M_odds_10 : decode c_M_odds 10 = .ok (.iconst 2, 1) := by decide +kernel
theorem d_M_odds_11 : decode c_M_odds 11 = .ok (.invokestatic 59, 3) := by decide +kernel
theorem d_M_odds_14 : decode c_M_odds 14 = .ok (.ifCond .eq 7, 3) := by decide +kernel
theorem d_M_odds_17 : decode c_M_odds 17 = .ok (.iconst 0, 1) := by decide +kernel
theorem d_M_odds_18 : decode c_M_odds 18 = .ok (.goto 4, 3) := by decide +kernel
theorem d_M_odds_21 : decode c_M_odds 21 = .ok (.iconst 1, 1) := by decide +kernel
theorem d_M_odds_22 : decode c_M_odds 22 = .ok (.putfield 55, 3) := by decide +kernel
theorem d_M_odds_25 : decode c_M_odds 25 = .ok (.aload_n 0, 1) := by decide +kernel
theorem d_M_odds_26 : decode c_M_odds 26 = .ok (.getfield 55, 3) := by decide +kernel
theorem d_M_odds_29 : decode c_M_odds 29 = .ok (.ifCond .le 5, 3) := by decide +kernel
theorem d_M_odds_32 : decode c_M_odds 32 = .ok (.lconst 0, 1) := by decide +kernel
theorem d_M_odds_33 : decode c_M_odds 33 = .ok (.lreturn, 1) := by decide +kernel
theorem d_M_odds_34 : decode c_M_odds 34 = .ok (.iconst 0, 1) := by decide +kernel
theorem d_M_odds_35 : decode c_M_odds 35 = .ok (.istore_n 3, 1) := by decide +kernel
theorem d_M_odds_36 : decode c_M_odds 36 = .ok (.iconst 0, 1) := by decide +kernel
theorem d_M_odds_37 : decode c_M_odds 37 = .ok (.istore 4, 2) := by decide +kernel
theorem d_M_odds_39 : decode c_M_odds 39 = .ok (.iload 4, 2) := by decide +kernel
theorem d_M_odds_41 : decode c_M_odds 41 = .ok (.aload_n 0, 1) := by decide +kernel
theorem d_M_odds_42 : decode c_M_odds 42 = .ok (.getfield 70, 3) := by decide +kernel
theorem d_M_odds_45 : decode c_M_odds 45 = .ok (.if_icmp .ge 35, 3) := by decide +kernel
theorem d_M_odds_48 : decode c_M_odds 48 = .ok (.aload_n 0, 1) := by decide +kernel
theorem d_M_odds_49 : decode c_M_odds 49 = .ok (.iload 4, 2) := by decide +kernel
theorem d_M_odds_51 : decode c_M_odds 51 = .ok (.iload_n 1, 1) := by decide +kernel
theorem d_M_odds_52 : decode c_M_odds 52 = .ok (.invokevirtual 77, 3) := by decide +kernel
theorem d_M_odds_55 : decode c_M_odds 55 = .ok (.ifCond .eq 19, 3) := by decide +kernel
theorem d_M_odds_58 : decode c_M_odds 58 = .ok (.aload_n 0, 1) := by decide +kernel
theorem d_M_odds_59 : decode c_M_odds 59 = .ok (.getfield 41, 3) := by decide +kernel
theorem d_M_odds_62 : decode c_M_odds 62 = .ok (.iload_n 3, 1) := by decide +kernel
theorem d_M_odds_63 : decode c_M_odds 63 = .ok (.aload_n 0, 1) := by decide +kernel
theorem d_M_odds_64 : decode c_M_odds 64 = .ok (.iload 4, 2) := by decide +kernel
theorem d_M_odds_66 : decode c_M_odds 66 = .ok (.iload_n 1, 1) := by decide +kernel
theorem d_M_odds_67 : decode c_M_odds 67 = .ok (.invokevirtual 73, 3) := by decide +kernel
theorem d_M_odds_70 : decode c_M_odds 70 = .ok (.iastore, 1) := by decide +kernel
theorem d_M_odds_71 : decode c_M_odds 71 = .ok (.iinc 3 1, 3) := by decide +kernel
theorem d_M_odds_74 : decode c_M_odds 74 = .ok (.iinc 4 1, 3) := by decide +kernel
theorem d_M_odds_77 : decode c_M_odds 77 = .ok (.goto (-38), 3) := by decide +kernel
theorem d_M_odds_80 : decode c_M_odds 80 = .ok (.aload_n 0, 1) := by decide +kernel
theorem d_M_odds_81 : decode c_M_odds 81 = .ok (.iload_n 1, 1) := by decide +kernel
theorem d_M_odds_82 : decode c_M_odds 82 = .ok (.invokevirtual 84, 3) := by decide +kernel
theorem d_M_odds_85 : decode c_M_odds 85 = .ok (.istore 4, 2) := by decide +kernel
theorem d_M_odds_87 : decode c_M_odds 87 = .ok (.lconst 0, 1) := by decide +kernel
theorem d_M_odds_88 : decode c_M_odds 88 = .ok (.lstore 5, 2) := by decide +kernel
theorem d_M_odds_90 : decode c_M_odds 90 = .ok (.iconst 0, 1) := by decide +kernel
theorem d_M_odds_91 : decode c_M_odds 91 = .ok (.istore 7, 2) := by decide +kernel
theorem d_M_odds_93 : decode c_M_odds 93 = .ok (.iload 7, 2) := by decide +kernel
theorem d_M_odds_95 : decode c_M_odds 95 = .ok (.iconst 1, 1) := by decide +kernel
theorem d_M_odds_96 : decode c_M_odds 96 = .ok (.iload_n 3, 1) := by decide +kernel
theorem d_M_odds_97 : decode c_M_odds 97 = .ok (.ishl, 1) := by decide +kernel
theorem d_M_odds_98 : decode c_M_odds 98 = .ok (.if_icmp .ge 78, 3) := by decide +kernel
theorem d_M_odds_101 : decode c_M_odds 101 = .ok (.iconst 0, 1) := by decide +kernel
theorem d_M_odds_102 : decode c_M_odds 102 = .ok (.istore 8, 2) := by decide +kernel
theorem d_M_odds_104 : decode c_M_odds 104 = .ok (.iconst 0, 1) := by decide +kernel
theorem d_M_odds_105 : decode c_M_odds 105 = .ok (.istore 9, 2) := by decide +kernel
theorem d_M_odds_107 : decode c_M_odds 107 = .ok (.iload 9, 2) := by decide +kernel
theorem d_M_odds_109 : decode c_M_odds 109 = .ok (.iload_n 3, 1) := by decide +kernel
theorem d_M_odds_110 : decode c_M_odds 110 = .ok (.if_icmp .ge 43, 3) := by decide +kernel
theorem d_M_odds_113 : decode c_M_odds 113 = .ok (.iload 8, 2) := by decide +kernel
theorem d_M_odds_115 : decode c_M_odds 115 = .ok (.iload 7, 2) := by decide +kernel
theorem d_M_odds_117 : decode c_M_odds 117 = .ok (.iload 9, 2) := by decide +kernel
theorem d_M_odds_119 : decode c_M_odds 119 = .ok (.ishr, 1) := by decide +kernel
theorem d_M_odds_120 : decode c_M_odds 120 = .ok (.iconst 1, 1) := by decide +kernel
theorem d_M_odds_121 : decode c_M_odds 121 = .ok (.iand, 1) := by decide +kernel
theorem d_M_odds_122 : decode c_M_odds 122 = .ok (.iconst 1, 1) := by decide +kernel
theorem d_M_odds_123 : decode c_M_odds 123 = .ok (.if_icmp .ne 14, 3) := by decide +kernel
theorem d_M_odds_126 : decode c_M_odds 126 = .ok (.aload_n 0, 1) := by decide +kernel
theorem d_M_odds_127 : decode c_M_odds 127 = .ok (.getfield 41, 3) := by decide +kernel
theorem d_M_odds_130 : decode c_M_odds 130 = .ok (.iload 9, 2) := by decide +kernel
theorem d_M_odds_132 : decode c_M_odds 132 = .ok (.iaload, 1) := by decide +kernel
theorem d_M_odds_133 : decode c_M_odds 133 = .ok (.ineg, 1) := by decide +kernel
theorem d_M_odds_134 : decode c_M_odds 134 = .ok (.goto 10, 3) := by decide +kernel
theorem d_M_odds_137 : decode c_M_odds 137 = .ok (.aload_n 0, 1) := by decide +kernel
theorem d_M_odds_138 : decode c_M_odds 138 = .ok (.getfield 41, 3) := by decide +kernel
theorem d_M_odds_141 : decode c_M_odds 141 = .ok (.iload 9, 2) := by decide +kernel
theorem d_M_odds_143 : decode c_M_odds 143 = .ok (.iaload, 1) := by decide +kernel
theorem d_M_odds_144 : decode c_M_odds 144 = .ok (.iadd, 1) := by decide +kernel
theorem d_M_odds_145 : decode c_M_odds 145 = .ok (.istore 8, 2) := by decide +kernel
theorem d_M_odds_147 : decode c_M_odds 147 = .ok (.iinc 9 1, 3) := by decide +kernel
theorem d_M_odds_150 : decode c_M_odds 150 = .ok (.goto (-43), 3) := by decide +kernel
theorem d_M_odds_153 : decode c_M_odds 153 = .ok (.lload 5, 2) := by decide +kernel
theorem d_M_odds_155 : decode c_M_odds 155 = .ok (.iload 8, 2) := by decide +kernel
theorem d_M_odds_157 : decode c_M_odds 157 = .ok (.iload 4, 2) := by decide +kernel
theorem d_M_odds_159 : decode c_M_odds 159 = .ok (.if_icmp .gt 7, 3) := by decide +kernel
theorem d_M_odds_162 : decode c_M_odds 162 = .ok (.lconst 1, 1) := by decide +kernel
theorem d_M_odds_163 : decode c_M_odds 163 = .ok (.goto 4, 3) := by decide +kernel
theorem d_M_odds_166 : decode c_M_odds 166 = .ok (.lconst 0, 1) := by decide +kernel
theorem d_M_odds_167 : decode c_M_odds 167 = .ok (.ladd, 1) := by decide +kernel
theorem d_M_odds_168 : decode c_M_odds 168 = .ok (.lstore 5, 2) := by decide +kernel
theorem d_M_odds_170 : decode c_M_odds 170 = .ok (.iinc 7 1, 3) := by decide +kernel
theorem d_M_odds_173 : decode c_M_odds 173 = .ok (.goto (-80), 3) := by decide +kernel
theorem d_M_odds_176 : decode c_M_odds 176 = .ok (.lload 5, 2) := by decide +kernel
theorem d_M_odds_178 : decode c_M_odds 178 = .ok (.lconst 1, 1) := by decide +kernel
theorem d_M_odds_179 : decode c_M_odds 179 = .ok (.iload_n 3, 1) := by decide +kernel
theorem d_M_odds_180 : decode c_M_odds 180 = .ok (.lshl, 1) := by decide +kernel
theorem d_M_odds_181 : decode c_M_odds 181 = .ok (.iload_n 2, 1) := by decide +kernel
theorem d_M_odds_182 : decode c_M_odds 182 = .ok (.invokestatic 87, 3) := by decide +kernel
theorem d_M_odds_185 : decode c_M_odds 185 = .ok (.lreturn, 1) := by decide +kernel
theorem d_M_plain_0 : decode c_M_plain 0 = .ok (.iload_n 0, 1) := by decide +kernel
theorem d_M_plain_1 : decode c_M_plain 1 = .ok (.ifCond .ge 8, 3) := by decide +kernel
theorem d_M_plain_4 : decode c_M_plain 4 = .ok (.iload_n 0, 1) := by decide +kernel
theorem d_M_plain_5 : decode c_M_plain 5 = .ok (.ineg, 1) := by decide +kernel
theorem d_M_plain_6 : decode c_M_plain 6 = .ok (.goto 4, 3) := by decide +kernel
theorem d_M_plain_9 : decode c_M_plain 9 = .ok (.iload_n 0, 1) := by decide +kernel
theorem d_M_plain_10 : decode c_M_plain 10 = .ok (.ireturn, 1) := by decide +kernel
theorem d_M_isRanked_0 : decode c_M_isRanked 0 = .ok (.aload_n 0, 1) := by decide +kernel
theorem d_M_isRanked_1 : decode c_M_isRanked 1 = .ok (.iload_n 1, 1) := by decide +kernel
theorem d_M_isRanked_2 : decode c_M_isRanked 2 = .ok (.iload_n 2, 1) := by decide +kernel
theorem d_M_isRanked_3 : decode c_M_isRanked 3 = .ok (.invokevirtual 77, 3) := by decide +kernel
theorem d_M_isRanked_6 : decode c_M_isRanked 6 = .ok (.ifCond .eq 16, 3) := by decide +kernel
theorem d_M_isRanked_9 : decode c_M_isRanked 9 = .ok (.aload_n 0, 1) := by decide +kernel
theorem d_M_isRanked_10 : decode c_M_isRanked 10 = .ok (.iload_n 1, 1) := by decide +kernel
theorem d_M_isRanked_11 : decode c_M_isRanked 11 = .ok (.iload_n 2, 1) := by decide +kernel
theorem d_M_isRanked_12 : decode c_M_isRanked 12 = .ok (.invokevirtual 73, 3) := by decide +kernel
theorem d_M_isRanked_15 : decode c_M_isRanked 15 = .ok (.ifCond .eq 7, 3) := by decide +kernel
theorem d_M_isRanked_18 : decode c_M_isRanked 18 = .ok (.iconst 1, 1) := by decide +kernel
theorem d_M_isRanked_19 : decode c_M_isRanked 19 = .ok (.goto 4, 3) := by decide +kernel
theorem d_M_isRanked_22 : decode c_M_isRanked 22 = .ok (.iconst 0, 1) := by decide +kernel
theorem d_M_isRanked_23 : decode c_M_isRanked 23 = .ok (.ireturn, 1) := by decide +kernel
theorem d_M_rankOf_0 : decode c_M_rankOf 0 = .ok (.aload_n 0, 1) := by decide +kernel
theorem d_M_rankOf_1 : decode c_M_rankOf 1 = .ok (.iload_n 1, 1) := by decide +kernel
theorem d_M_rankOf_2 : decode c_M_rankOf 2 = .ok (.iload_n 2, 1) := by decide +kernel
