theorem d_M_isConstant_17 : decode b_M_isConstant 17 = .ok (.iadd, 1) := by decide +kernel
theorem d_M_isConstant_18 : decode b_M_isConstant 18 = .ok (.iaload, 1) := by decide +kernel
theorem d_M_isConstant_19 : decode b_M_isConstant 19 = .ok (.ifCond .eq 5, 3) := by decide +kernel
theorem d_M_isConstant_22 : decode b_M_isConstant 22 = .ok (.iconst 0, 1) := by decide +kernel
theorem d_M_isConstant_23 : decode b_M_isConstant 23 = .ok (.ireturn, 1) := by decide +kernel
theorem d_M_isConstant_24 : decode b_M_isConstant 24 = .ok (.iinc 2 1, 3) := by decide +kernel
theorem d_M_isConstant_27 : decode b_M_isConstant 27 = .ok (.goto (-25), 3) := by decide +kernel
theorem d_M_isConstant_30 : decode b_M_isConstant 30 = .ok (.iconst 1, 1) := by decide +kernel
theorem d_M_isConstant_31 : decode b_M_isConstant 31 = .ok (.ireturn, 1) := by decide +kernel
theorem d_M_plainEither_0 : decode b_M_plainEither 0 = .ok (.aload_n 0, 1) := by decide +kernel
theorem d_M_plainEither_1 : decode b_M_plainEither 1 = .ok (.getfield 41, 3) := by decide +kernel
theorem d_M_plainEither_4 : decode b_M_plainEither 4 = .ok (.iconst 0, 1) := by decide +kernel
theorem d_M_plainEither_5 : decode b_M_plainEither 5 = .ok (.invokestatic 64, 3) := by decide +kernel
theorem d_M_plainEither_8 : decode b_M_plainEither 8 = .ok (.aload_n 0, 1) := by decide +kernel
theorem d_M_plainEither_9 : decode b_M_plainEither 9 = .ok (.aload_n 0, 1) := by decide +kernel
theorem d_M_plainEither_10 : decode b_M_plainEither 10 = .ok (.getfield 41, 3) := by decide +kernel
theorem d_M_plainEither_13 : decode b_M_plainEither 13 = .ok (.iload_n 1, 1) := by decide +kernel
theorem d_M_plainEither_14 : decode b_M_plainEither 14 = .ok (.iconst 1, 1) := by decide +kernel
theorem d_M_plainEither_15 : decode b_M_plainEither 15 = .ok (.invokevirtual 90, 3) := by decide +kernel
theorem d_M_plainEither_18 : decode b_M_plainEither 18 = .ok (.aload_n 0, 1) := by decide +kernel
theorem d_M_plainEither_19 : decode b_M_plainEither 19 = .ok (.aload_n 0, 1) := by decide +kernel
theorem d_M_plainEither_20 : decode b_M_plainEither 20 = .ok (.getfield 41, 3) := by decide +kernel
theorem d_M_plainEither_23 : decode b_M_plainEither 23 = .ok (.iload_n 2, 1) := by decide +kernel
theorem d_M_plainEither_24 : decode b_M_plainEither 24 = .ok (.bipush 96, 2) := by decide +kernel
theorem d_M_plainEither_26 : decode b_M_plainEither 26 = .ok (.invokevirtual 90, 3) := by decide +kernel
theorem d_M_plainEither_29 : decode b_M_plainEither 29 = .ok (.aload_n 0, 1) := by decide +kernel
theorem d_M_plainEither_30 : decode b_M_plainEither 30 = .ok (.iload_n 3, 1) := by decide +kernel
theorem d_M_plainEither_31 : decode b_M_plainEither 31 = .ok (.invokevirtual 94, 3) := by decide +kernel
theorem d_M_plainEither_34 : decode b_M_plainEither 34 = .ok (.ifCond .ne 13, 3) := by decide +kernel
theorem d_M_plainEither_37 : decode b_M_plainEither 37 = .ok (.aload_n 0, 1) := by decide +kernel
theorem d_M_plainEither_38 : decode b_M_plainEither 38 = .ok (.getfield 41, 3) := by decide +kernel
theorem d_M_plainEither_41 : decode b_M_plainEither 41 = .ok (.invokestatic 68, 3) := by decide +kernel
theorem d_M_plainEither_44 : decode b_M_plainEither 44 = .ok (.ifCond .eq 7, 3) := by decide +kernel
theorem d_M_plainEither_47 : decode b_M_plainEither 47 = .ok (.iconst 1, 1) := by decide +kernel
theorem d_M_plainEither_48 : decode b_M_plainEither 48 = .ok (.goto 4, 3) := by decide +kernel
theorem d_M_plainEither_51 : decode b_M_plainEither 51 = .ok (.iconst 0, 1) := by decide +kernel
theorem d_M_plainEither_52 : decode b_M_plainEither 52 = .ok (.ireturn, 1) := by decide +kernel
theorem d_M_number_0 : decode b_M_number 0 = .ok (.iconst 0, 1) := by decide +kernel
theorem d_M_number_1 : decode b_M_number 1 = .ok (.istore_n 2, 1) := by decide +kernel
theorem d_M_number_2 : decode b_M_number 2 = .ok (.iload_n 2, 1) := by decide +kernel
theorem d_M_number_3 : decode b_M_number 3 = .ok (.bipush 60, 2) := by decide +kernel
theorem d_M_number_5 : decode b_M_number 5 = .ok (.if_icmp .ge 13, 3) := by decide +kernel
theorem d_M_number_8 : decode b_M_number 8 = .ok (.aload_n 0, 1) := by decide +kernel
theorem d_M_number_9 : decode b_M_number 9 = .ok (.iload_n 2, 1) := by decide +kernel
theorem d_M_number_10 : decode b_M_number 10 = .ok (.iconst 0, 1) := by decide +kernel
theorem d_M_number_11 : decode b_M_number 11 = .ok (.iastore, 1) := by decide +kernel
theorem d_M_number_12 : decode b_M_number 12 = .ok (.iinc 2 1, 3) := by decide +kernel
theorem d_M_number_15 : decode b_M_number 15 = .ok (.goto (-13), 3) := by decide +kernel
theorem d_M_number_18 : decode b_M_number 18 = .ok (.aload_n 0, 1) := by decide +kernel
theorem d_M_number_19 : decode b_M_number 19 = .ok (.iconst 0, 1) := by decide +kernel
theorem d_M_number_20 : decode b_M_number 20 = .ok (.iload_n 1, 1) := by decide +kernel
theorem d_M_number_21 : decode b_M_number 21 = .ok (.invokestatic 60, 3) := by decide +kernel
theorem d_M_number_24 : decode b_M_number 24 = .ok (.iastore, 1) := by decide +kernel
theorem d_M_number_25 : decode b_M_number 25 = .ok (.return_, 1) := by decide +kernel
theorem d_M_rest_0 : decode b_M_rest 0 = .ok (.iload_n 0, 1) := by decide +kernel
theorem d_M_rest_1 : decode b_M_rest 1 = .ok (.bipush 97, 2) := by decide +kernel
theorem d_M_rest_3 : decode b_M_rest 3 = .ok (.irem, 1) := by decide +kernel
theorem d_M_rest_4 : decode b_M_rest 4 = .ok (.bipush 97, 2) := by decide +kernel
theorem d_M_rest_6 : decode b_M_rest 6 = .ok (.iadd, 1) := by decide +kernel
theorem d_M_rest_7 : decode b_M_rest 7 = .ok (.bipush 97, 2) := by decide +kernel
theorem d_M_rest_9 : decode b_M_rest 9 = .ok (.irem, 1) := by decide +kernel
theorem d_M_rest_10 : decode b_M_rest 10 = .ok (.ireturn, 1) := by decide +kernel
theorem d_M_add_0 : decode b_M_add 0 = .ok (.iconst 0, 1) := by decide +kernel
theorem d_M_add_1 : decode b_M_add 1 = .ok (.istore 4, 2) := by decide +kernel
theorem d_M_add_3 : decode b_M_add 3 = .ok (.iload 4, 2) := by decide +kernel
theorem d_M_add_5 : decode b_M_add 5 = .ok (.bipush 60, 2) := by decide +kernel
theorem d_M_add_7 : decode b_M_add 7 = .ok (.if_icmp .ge 35, 3) := by decide +kernel
theorem d_M_add_10 : decode b_M_add 10 = .ok (.aload_n 1, 1) := by decide +kernel
theorem d_M_add_11 : decode b_M_add 11 = .ok (.iload 4, 2) := by decide +kernel
theorem d_M_add_13 : decode b_M_add 13 = .ok (.aload_n 1, 1) := by decide +kernel
theorem d_M_add_14 : decode b_M_add 14 = .ok (.iload 4, 2) := by decide +kernel
theorem d_M_add_16 : decode b_M_add 16 = .ok (.iaload, 1) := by decide +kernel
theorem d_M_add_17 : decode b_M_add 17 = .ok (.iload_n 3, 1) := by decide +kernel
theorem d_M_add_18 : decode b_M_add 18 = .ok (.aload_n 0, 1) := by decide +kernel
theorem d_M_add_19 : decode b_M_add 19 = .ok (.getfield 7, 3) := by decide +kernel
theorem d_M_add_22 : decode b_M_add 22 = .ok (.bipush 60, 2) := by decide +kernel
theorem d_M_add_24 : decode b_M_add 24 = .ok (.iload_n 2, 1) := by decide +kernel
theorem d_M_add_25 : decode b_M_add 25 = .ok (.imul, 1) := by decide +kernel
theorem d_M_add_26 : decode b_M_add 26 = .ok (.iload 4, 2) := by decide +kernel
theorem d_M_add_28 : decode b_M_add 28 = .ok (.iadd, 1) := by decide +kernel
theorem d_M_add_29 : decode b_M_add 29 = .ok (.iaload, 1) := by decide +kernel
theorem d_M_add_30 : decode b_M_add 30 = .ok (.imul, 1) := by decide +kernel
theorem d_M_add_31 : decode b_M_add 31 = .ok (.iadd, 1) := by decide +kernel
theorem d_M_add_32 : decode b_M_add 32 = .ok (.invokestatic 60, 3) := by decide +kernel
theorem d_M_add_35 : decode b_M_add 35 = .ok (.iastore, 1) := by decide +kernel
theorem d_M_add_36 : decode b_M_add 36 = .ok (.iinc 4 1, 3) := by decide +kernel
theorem d_M_add_39 : decode b_M_add 39 = .ok (.goto (-36), 3) := by decide +kernel
theorem d_M_add_42 : decode b_M_add 42 = .ok (.return_, 1) := by decide +kernel
theorem d_M_constant_0 : decode b_M_constant 0 = .ok (.iconst 1, 1) := by decide +kernel
theorem d_M_constant_1 : decode b_M_constant 1 = .ok (.istore_n 1, 1) := by decide +kernel
theorem d_M_constant_2 : decode b_M_constant 2 = .ok (.iload_n 1, 1) := by decide +kernel
theorem d_M_constant_3 : decode b_M_constant 3 = .ok (.bipush 60, 2) := by decide +kernel
theorem d_M_constant_5 : decode b_M_constant 5 = .ok (.if_icmp .ge 17, 3) := by decide +kernel
theorem d_M_constant_8 : decode b_M_constant 8 = .ok (.aload_n 0, 1) := by decide +kernel
theorem d_M_constant_9 : decode b_M_constant 9 = .ok (.iload_n 1, 1) := by decide +kernel
theorem d_M_constant_10 : decode b_M_constant 10 = .ok (.iaload, 1) := by decide +kernel
theorem d_M_constant_11 : decode b_M_constant 11 = .ok (.ifCond .eq 5, 3) := by decide +kernel
theorem d_M_constant_14 : decode b_M_constant 14 = .ok (.iconst 0, 1) := by decide +kernel
theorem d_M_constant_15 : decode b_M_constant 15 = .ok (.ireturn, 1) := by decide +kernel
theorem d_M_constant_16 : decode b_M_constant 16 = .ok (.iinc 1 1, 3) := by decide +kernel
theorem d_M_constant_19 : decode b_M_constant 19 = .ok (.goto (-17), 3) := by decide +kernel
theorem d_M_constant_22 : decode b_M_constant 22 = .ok (.iconst 1, 1) := by decide +kernel
theorem d_M_constant_23 : decode b_M_constant 23 = .ok (.ireturn, 1) := by decide +kernel
theorem d_M_work_0 : decode b_M_work 0 = .ok (.iload_n 1, 1) := by decide +kernel
theorem d_M_work_1 : decode b_M_work 1 = .ok (.tableswitch 237 0 8 #[51, 62, 93, 93, 125, 150, 159, 168, 215], 51) := by decide +kernel
theorem d_M_work_52 : decode b_M_work 52 = .ok (.aload_n 0, 1) := by decide +kernel
theorem d_M_work_53 : decode b_M_work 53 = .ok (.getfield 35, 3) := by decide +kernel
theorem d_M_work_56 : decode b_M_work 56 = .ok (.iload_n 2, 1) := by decide +kernel
theorem d_M_work_57 : decode b_M_work 57 = .ok (.invokestatic 64, 3) := by decide +kernel
theorem d_M_work_60 : decode b_M_work 60 = .ok (.goto 215, 3) := by decide +kernel
theorem d_M_work_63 : decode b_M_work 63 = .ok (.aload_n 0, 1) := by decide +kernel
theorem d_M_work_64 : decode b_M_work 64 = .ok (.getfield 16, 3) := by decide +kernel
theorem d_M_work_67 : decode b_M_work 67 = .ok (.aload_n 0, 1) := by decide +kernel
theorem d_M_work_68 : decode b_M_work 68 = .ok (.getfield 53, 3) := by decide +kernel
theorem d_M_work_71 : decode b_M_work 71 = .ok (.aload_n 0, 1) := by decide +kernel
theorem d_M_work_72 : decode b_M_work 72 = .ok (.iconst 0, 1) := by decide +kernel
theorem d_M_work_73 : decode b_M_work 73 = .ok (.iconst 0, 1) := by decide +kernel
theorem d_M_work_74 : decode b_M_work 74 = .ok (.invokevirtual 75, 3) := by decide +kernel
theorem d_M_work_77 : decode b_M_work 77 = .ok (.iastore, 1) := by decide +kernel
theorem d_M_work_78 : decode b_M_work 78 = .ok (.aload_n 0, 1) := by decide +kernel
theorem d_M_work_79 : decode b_M_work 79 = .ok (.getfield 35, 3) := by decide +kernel
theorem d_M_work_82 : decode b_M_work 82 = .ok (.aload_n 0, 1) := by decide +kernel
theorem d_M_work_83 : decode b_M_work 83 = .ok (.getfield 28, 3) := by decide +kernel
theorem d_M_work_86 : decode b_M_work 86 = .ok (.iconst 1, 1) := by decide +kernel
theorem d_M_work_87 : decode b_M_work 87 = .ok (.isub, 1) := by decide +kernel
theorem d_M_work_88 : decode b_M_work 88 = .ok (.invokestatic 83, 3) := by decide +kernel
theorem d_M_work_91 : decode b_M_work 91 = .ok (.goto 184, 3) := by decide +kernel
theorem d_M_work_94 : decode b_M_work 94 = .ok (.aload_n 0, 1) := by decide +kernel
theorem d_M_work_95 : decode b_M_work 95 = .ok (.aload_n 0, 1) := by decide +kernel
theorem d_M_work_96 : decode b_M_work 96 = .ok (.getfield 35, 3) := by decide +kernel
theorem d_M_work_99 : decode b_M_work 99 = .ok (.iload_n 2, 1) := by decide +kernel
theorem d_M_work_100 : decode b_M_work 100 = .ok (.invokevirtual 100, 3) := by decide +kernel
theorem d_M_work_103 : decode b_M_work 103 = .ok (.aload_n 0, 1) := by decide +kernel
theorem d_M_work_104 : decode b_M_work 104 = .ok (.aload_n 0, 1) := by decide +kernel
theorem d_M_work_105 : decode b_M_work 105 = .ok (.getfield 35, 3) := by decide +kernel
theorem d_M_work_108 : decode b_M_work 108 = .ok (.iload_n 3, 1) := by decide +kernel
theorem d_M_work_109 : decode b_M_work 109 = .ok (.iload_n 1, 1) := by decide +kernel
theorem d_M_work_110 : decode b_M_work 110 = .ok (.iconst 2, 1) := by decide +kernel
theorem d_M_work_111 : decode b_M_work 111 = .ok (.if_icmp .ne 7, 3) := by decide +kernel
theorem d_M_work_114 : decode b_M_work 114 = .ok (.iconst 1, 1) := by decide +kernel
theorem d_M_work_115 : decode b_M_work 115 = .ok (.goto 5, 3) := by decide +kernel
theorem d_M_work_118 : decode b_M_work 118 = .ok (.bipush 96, 2) := by decide +kernel
theorem d_M_work_120 : decode b_M_work 120 = .ok (.invokevirtual 90, 3) := by decide +kernel
theorem d_M_work_123 : decode b_M_work 123 = .ok (.goto 152, 3) := by decide +kernel
theorem d_M_work_126 : decode b_M_work 126 = .ok (.aload_n 0, 1) := by decide +kernel
theorem d_M_work_127 : decode b_M_work 127 = .ok (.aload_n 0, 1) := by decide +kernel
theorem d_M_work_128 : decode b_M_work 128 = .ok (.getfield 35, 3) := by decide +kernel
theorem d_M_work_131 : decode b_M_work 131 = .ok (.iload_n 2, 1) := by decide +kernel
theorem d_M_work_132 : decode b_M_work 132 = .ok (.invokevirtual 100, 3) := by decide +kernel
theorem d_M_work_135 : decode b_M_work 135 = .ok (.aload_n 0, 1) := by decide +kernel
theorem d_M_work_136 : decode b_M_work 136 = .ok (.aload_n 0, 1) := by decide +kernel
theorem d_M_work_137 : decode b_M_work 137 = .ok (.getfield 38, 3) := by decide +kernel
theorem d_M_work_140 : decode b_M_work 140 = .ok (.iload_n 3, 1) := by decide +kernel
theorem d_M_work_141 : decode b_M_work 141 = .ok (.invokevirtual 100, 3) := by decide +kernel
theorem d_M_work_144 : decode b_M_work 144 = .ok (.aload_n 0, 1) := by decide +kernel
theorem d_M_work_145 : decode b_M_work 145 = .ok (.invokevirtual 103, 3) := by decide +kernel
theorem d_M_work_148 : decode b_M_work 148 = .ok (.goto 127, 3) := by decide +kernel
theorem d_M_work_151 : decode b_M_work 151 = .ok (.aload_n 0, 1) := by decide +kernel
theorem d_M_work_152 : decode b_M_work 152 = .ok (.iload_n 2, 1) := by decide +kernel
theorem d_M_work_153 : decode b_M_work 153 = .ok (.iload_n 3, 1) := by decide +kernel
theorem d_M_work_154 : decode b_M_work 154 = .ok (.invokevirtual 106, 3) := by decide +kernel
theorem d_M_work_157 : decode b_M_work 157 = .ok (.goto 118, 3) := by decide +kernel
theorem d_M_work_160 : decode b_M_work 160 = .ok (.aload_n 0, 1) := by decide +kernel
theorem d_M_work_161 : decode b_M_work 161 = .ok (.iload_n 2, 1) := by decide +kernel
theorem d_M_work_162 : decode b_M_work 162 = .ok (.iload_n 3, 1) := by decide +kernel
theorem d_M_work_163 : decode b_M_work 163 = .ok (.invokevirtual 110, 3) := by decide +kernel
theorem d_M_work_166 : decode b_M_work 166 = .ok (.goto 109, 3) := by decide +kernel
theorem d_M_work_169 : decode b_M_work 169 = .ok (.aload_n 0, 1) := by decide +kernel
theorem d_M_work_170 : decode b_M_work 170 = .ok (.aload_n 0, 1) := by decide +kernel
theorem d_M_work_171 : decode b_M_work 171 = .ok (.getfield 35, 3) := by decide +kernel
theorem d_M_work_174 : decode b_M_work 174 = .ok (.iload 4, 2) := by decide +kernel
theorem d_M_work_176 : decode b_M_work 176 = .ok (.invokevirtual 100, 3) := by decide +kernel
theorem d_M_work_179 : decode b_M_work 179 = .ok (.aload_n 0, 1) := by decide +kernel
theorem d_M_work_180 : decode b_M_work 180 = .ok (.aload_n 0, 1) := by decide +kernel
theorem d_M_work_181 : decode b_M_work 181 = .ok (.getfield 38, 3) := by decide +kernel
theorem d_M_work_184 : decode b_M_work 184 = .ok (.iload_n 2, 1) := by decide +kernel
theorem d_M_work_185 : decode b_M_work 185 = .ok (.invokevirtual 100, 3) := by decide +kernel
theorem d_M_work_188 : decode b_M_work 188 = .ok (.aload_n 0, 1) := by decide +kernel
theorem d_M_work_189 : decode b_M_work 189 = .ok (.aload_n 0, 1) := by decide +kernel
theorem d_M_work_190 : decode b_M_work 190 = .ok (.getfield 38, 3) := by decide +kernel
theorem d_M_work_193 : decode b_M_work 193 = .ok (.iload_n 3, 1) := by decide +kernel
theorem d_M_work_194 : decode b_M_work 194 = .ok (.bipush 96, 2) := by decide +kernel
theorem d_M_work_196 : decode b_M_work 196 = .ok (.invokevirtual 90, 3) := by decide +kernel
theorem d_M_work_199 : decode b_M_work 199 = .ok (.aload_n 0, 1) := by decide +kernel
theorem d_M_work_200 : decode b_M_work 200 = .ok (.invokevirtual 103, 3) := by decide +kernel
theorem d_M_work_203 : decode b_M_work 203 = .ok (.aload_n 0, 1) := by decide +kernel
theorem d_M_work_204 : decode b_M_work 204 = .ok (.aload_n 0, 1) := by decide +kernel
theorem d_M_work_205 : decode b_M_work 205 = .ok (.getfield 35, 3) := by decide +kernel
theorem d_M_work_208 : decode b_M_work 208 = .ok (.iload_n 3, 1) := by decide +kernel
theorem d_M_work_209 : decode b_M_work 209 = .ok (.iconst 1, 1) := by decide +kernel
theorem d_M_work_210 : decode b_M_work 210 = .ok (.invokevirtual 90, 3) := by decide +kernel
theorem d_M_work_213 : decode b_M_work 213 = .ok (.goto 62, 3) := by decide +kernel
theorem d_M_work_216 : decode b_M_work 216 = .ok (.aload_n 0, 1) := by decide +kernel
theorem d_M_work_217 : decode b_M_work 217 = .ok (.getfield 35, 3) := by decide +kernel
theorem d_M_work_220 : decode b_M_work 220 = .ok (.iconst 1, 1) := by decide +kernel
theorem d_M_work_221 : decode b_M_work 221 = .ok (.invokestatic 64, 3) := by decide +kernel
theorem d_M_work_224 : decode b_M_work 224 = .ok (.aload_n 0, 1) := by decide +kernel
theorem d_M_work_225 : decode b_M_work 225 = .ok (.aload_n 0, 1) := by decide +kernel
theorem d_M_work_226 : decode b_M_work 226 = .ok (.getfield 35, 3) := by decide +kernel
theorem d_M_work_229 : decode b_M_work 229 = .ok (.iload_n 2, 1) := by decide +kernel
theorem d_M_work_230 : decode b_M_work 230 = .ok (.bipush 96, 2) := by decide +kernel
theorem d_M_work_232 : decode b_M_work 232 = .ok (.invokevirtual 90, 3) := by decide +kernel
theorem d_M_work_235 : decode b_M_work 235 = .ok (.goto 40, 3) := by decide +kernel
theorem d_M_work_238 : decode b_M_work 238 = .ok (.aload_n 0, 1) := by decide +kernel
theorem d_M_work_239 : decode b_M_work 239 = .ok (.aload_n 0, 1) := by decide +kernel
theorem d_M_work_240 : decode b_M_work 240 = .ok (.getfield 35, 3) := by decide +kernel
theorem d_M_work_243 : decode b_M_work 243 = .ok (.iload_n 2, 1) := by decide +kernel
theorem d_M_work_244 : decode b_M_work 244 = .ok (.invokevirtual 100, 3) := by decide +kernel
theorem d_M_work_247 : decode b_M_work 247 = .ok (.iconst 1, 1) := by decide +kernel
theorem d_M_work_248 : decode b_M_work 248 = .ok (.istore 5, 2) := by decide +kernel
theorem d_M_work_250 : decode b_M_work 250 = .ok (.iload 5, 2) := by decide +kernel
theorem d_M_work_252 : decode b_M_work 252 = .ok (.iload_n 3, 1) := by decide +kernel
theorem d_M_work_253 : decode b_M_work 253 = .ok (.if_icmp .ge 22, 3) := by decide +kernel
theorem d_M_work_256 : decode b_M_work 256 = .ok (.aload_n 0, 1) := by decide +kernel
theorem d_M_work_257 : decode b_M_work 257 = .ok (.aload_n 0, 1) := by decide +kernel
theorem d_M_work_258 : decode b_M_work 258 = .ok (.getfield 38, 3) := by decide +kernel
theorem d_M_work_261 : decode b_M_work 261 = .ok (.iload_n 2, 1) := by decide +kernel
theorem d_M_work_262 : decode b_M_work 262 = .ok (.invokevirtual 100, 3) := by decide +kernel
theorem d_M_work_265 : decode b_M_work 265 = .ok (.aload_n 0, 1) := by decide +kernel
theorem d_M_work_266 : decode b_M_work 266 = .ok (.invokevirtual 103, 3) := by decide +kernel
theorem d_M_work_269 : decode b_M_work 269 = .ok (.iinc 5 1, 3) := by decide +kernel
theorem d_M_work_272 : decode b_M_work 272 = .ok (.goto (-22), 3) := by decide +kernel
theorem d_M_work_275 : decode b_M_work 275 = .ok (.return_, 1) := by decide +kernel
theorem d_M_variable_0 : decode b_M_variable 0 = .ok (.aload_n 0, 1) := by decide +kernel
theorem d_M_variable_1 : decode b_M_variable 1 = .ok (.getfield 19, 3) := by decide +kernel
theorem d_M_variable_4 : decode b_M_variable 4 = .ok (.aload_n 0, 1) := by decide +kernel
theorem d_M_variable_5 : decode b_M_variable 5 = .ok (.getfield 28, 3) := by decide +kernel
theorem d_M_variable_8 : decode b_M_variable 8 = .ok (.iload_n 1, 1) := by decide +kernel
theorem d_M_variable_9 : decode b_M_variable 9 = .ok (.iastore, 1) := by decide +kernel
theorem d_M_variable_10 : decode b_M_variable 10 = .ok (.aload_n 0, 1) := by decide +kernel
theorem d_M_variable_11 : decode b_M_variable 11 = .ok (.getfield 22, 3) := by decide +kernel
theorem d_M_variable_14 : decode b_M_variable 14 = .ok (.aload_n 0, 1) := by decide +kernel
theorem d_M_variable_15 : decode b_M_variable 15 = .ok (.getfield 28, 3) := by decide +kernel
theorem d_M_variable_18 : decode b_M_variable 18 = .ok (.iload_n 2, 1) := by decide +kernel
theorem d_M_variable_19 : decode b_M_variable 19 = .ok (.iastore, 1) := by decide +kernel
theorem d_M_variable_20 : decode b_M_variable 20 = .ok (.aload_n 0, 1) := by decide +kernel
theorem d_M_variable_21 : decode b_M_variable 21 = .ok (.getfield 25, 3) := by decide +kernel
theorem d_M_variable_24 : decode b_M_variable 24 = .ok (.aload_n 0, 1) := by decide +kernel
theorem d_M_variable_25 : decode b_M_variable 25 = .ok (.getfield 28, 3) := by decide +kernel
theorem d_M_variable_28 : decode b_M_variable 28 = .ok (.iconst 0, 1) := by decide +kernel
theorem d_M_variable_29 : decode b_M_variable 29 = .ok (.iastore, 1) := by decide +kernel
theorem d_M_variable_30 : decode b_M_variable 30 = .ok (.aload_n 0, 1) := by decide +kernel
theorem d_M_variable_31 : decode b_M_variable 31 = .ok (.dup, 1) := by decide +kernel
theorem d_M_variable_32 : decode b_M_variable 32 = .ok (.getfield 28, 3) := by decide +kernel
theorem d_M_variable_35 : decode b_M_variable 35 = .ok (.iconst 1, 1) := by decide +kernel
theorem d_M_variable_36 : decode b_M_variable 36 = .ok (.iadd, 1) := by decide +kernel
theorem d_M_variable_37 : decode b_M_variable 37 = .ok (.putfield 28, 3) := by decide +kernel
theorem d_M_variable_40 : decode b_M_variable 40 = .ok (.aload_n 0, 1) := by decide +kernel
theorem d_M_variable_41 : decode b_M_variable 41 = .ok (.getfield 28, 3) := by decide +kernel
theorem d_M_variable_44 : decode b_M_variable 44 = .ok (.iconst 1, 1) := by decide +kernel
theorem d_M_variable_45 : decode b_M_variable 45 = .ok (.isub, 1) := by decide +kernel
theorem d_M_variable_46 : decode b_M_variable 46 = .ok (.ireturn, 1) := by decide +kernel
theorem d_M_one_0 : decode b_M_one 0 = .ok (.aload_n 0, 1) := by decide +kernel
theorem d_M_one_1 : decode b_M_one 1 = .ok (.iconst 0, 1) := by decide +kernel
theorem d_M_one_2 : decode b_M_one 2 = .ok (.invokestatic 64, 3) := by decide +kernel
theorem d_M_one_5 : decode b_M_one 5 = .ok (.aload_n 0, 1) := by decide +kernel
theorem d_M_one_6 : decode b_M_one 6 = .ok (.iload_n 1, 1) := by decide +kernel
theorem d_M_one_7 : decode b_M_one 7 = .ok (.iconst 1, 1) := by decide +kernel
theorem d_M_one_8 : decode b_M_one 8 = .ok (.iastore, 1) := by decide +kernel
theorem d_M_one_9 : decode b_M_one 9 = .ok (.return_, 1) := by decide +kernel
theorem d_M_fetch_0 : decode b_M_fetch 0 = .ok (.iconst 0, 1) := by decide +kernel
theorem d_M_fetch_1 : decode b_M_fetch 1 = .ok (.istore_n 3, 1) := by decide +kernel
theorem d_M_fetch_2 : decode b_M_fetch 2 = .ok (.iload_n 3, 1) := by decide +kernel
theorem d_M_fetch_3 : decode b_M_fetch 3 = .ok (.bipush 60, 2) := by decide +kernel
theorem d_M_fetch_5 : decode b_M_fetch 5 = .ok (.if_icmp .ge 23, 3) := by decide +kernel
theorem d_M_fetch_8 : decode b_M_fetch 8 = .ok (.aload_n 1, 1) := by decide +kernel
theorem d_M_fetch_9 : decode b_M_fetch 9 = .ok (.iload_n 3, 1) := by decide +kernel
theorem d_M_fetch_10 : decode b_M_fetch 10 = .ok (.aload_n 0, 1) := by decide +kernel
theorem d_M_fetch_11 : decode b_M_fetch 11 = .ok (.getfield 7, 3) := by decide +kernel
theorem d_M_fetch_14 : decode b_M_fetch 14 = .ok (.bipush 60, 2) := by decide +kernel
theorem d_M_fetch_16 : decode b_M_fetch 16 = .ok (.iload_n 2, 1) := by decide +kernel
theorem d_M_fetch_17 : decode b_M_fetch 17 = .ok (.imul, 1) := by decide +kernel
theorem d_M_fetch_18 : decode b_M_fetch 18 = .ok (.iload_n 3, 1) := by decide +kernel
theorem d_M_fetch_19 : decode b_M_fetch 19 = .ok (.iadd, 1) := by decide +kernel
theorem d_M_fetch_20 : decode b_M_fetch 20 = .ok (.iaload, 1) := by decide +kernel
theorem d_M_fetch_21 : decode b_M_fetch 21 = .ok (.iastore, 1) := by decide +kernel
theorem d_M_fetch_22 : decode b_M_fetch 22 = .ok (.iinc 3 1, 3) := by decide +kernel
theorem d_M_fetch_25 : decode b_M_fetch 25 = .ok (.goto (-23), 3) := by decide +kernel
theorem d_M_fetch_28 : decode b_M_fetch 28 = .ok (.return_, 1) := by decide +kernel
theorem d_M_multiply_0 : decode b_M_multiply 0 = .ok (.aload_n 0, 1) := by decide +kernel
theorem d_M_multiply_1 : decode b_M_multiply 1 = .ok (.getfield 35, 3) := by decide +kernel
theorem d_M_multiply_4 : decode b_M_multiply 4 = .ok (.invokestatic 68, 3) := by decide +kernel
theorem d_M_multiply_7 : decode b_M_multiply 7 = .ok (.ifCond .ne 13, 3) := by decide +kernel
theorem d_M_multiply_10 : decode b_M_multiply 10 = .ok (.aload_n 0, 1) := by decide +kernel
theorem d_M_multiply_11 : decode b_M_multiply 11 = .ok (.getfield 38, 3) := by decide +kernel
theorem d_M_multiply_14 : decode b_M_multiply 14 = .ok (.invokestatic 68, 3) := by decide +kernel
theorem d_M_multiply_17 : decode b_M_multiply 17 = .ok (.ifCond .eq 76, 3) := by decide +kernel
theorem d_M_multiply_20 : decode b_M_multiply 20 = .ok (.aload_n 0, 1) := by decide +kernel
theorem d_M_multiply_21 : decode b_M_multiply 21 = .ok (.getfield 35, 3) := by decide +kernel
theorem d_M_multiply_24 : decode b_M_multiply 24 = .ok (.invokestatic 68, 3) := by decide +kernel
theorem d_M_multiply_27 : decode b_M_multiply 27 = .ok (.istore_n 1, 1) := by decide +kernel
theorem d_M_multiply_28 : decode b_M_multiply 28 = .ok (.iload_n 1, 1) := by decide +kernel
theorem d_M_multiply_29 : decode b_M_multiply 29 = .ok (.ifCond .eq 12, 3) := by decide +kernel
theorem d_M_multiply_32 : decode b_M_multiply 32 = .ok (.aload_n 0, 1) := by decide +kernel
theorem d_M_multiply_33 : decode b_M_multiply 33 = .ok (.getfield 35, 3) := by decide +kernel
theorem d_M_multiply_36 : decode b_M_multiply 36 = .ok (.iconst 0, 1) := by decide +kernel
theorem d_M_multiply_37 : decode b_M_multiply 37 = .ok (.iaload, 1) := by decide +kernel
theorem d_M_multiply_38 : decode b_M_multiply 38 = .ok (.goto 9, 3) := by decide +kernel
theorem d_M_multiply_41 : decode b_M_multiply 41 = .ok (.aload_n 0, 1) := by decide +kernel
theorem d_M_multiply_42 : decode b_M_multiply 42 = .ok (.getfield 38, 3) := by decide +kernel
theorem d_M_multiply_45 : decode b_M_multiply 45 = .ok (.iconst 0, 1) := by decide +kernel
theorem d_M_multiply_46 : decode b_M_multiply 46 = .ok (.iaload, 1) := by decide +kernel
theorem d_M_multiply_47 : decode b_M_multiply 47 = .ok (.istore_n 2, 1) := by decide +kernel
theorem d_M_multiply_48 : decode b_M_multiply 48 = .ok (.iconst 0, 1) := by decide +kernel
theorem d_M_multiply_49 : decode b_M_multiply 49 = .ok (.istore_n 3, 1) := by decide +kernel
theorem d_M_multiply_50 : decode b_M_multiply 50 = .ok (.iload_n 3, 1) := by decide +kernel
theorem d_M_multiply_51 : decode b_M_multiply 51 = .ok (.bipush 60, 2) := by decide +kernel
theorem d_M_multiply_53 : decode b_M_multiply 53 = .ok (.if_icmp .ge 39, 3) := by decide +kernel
theorem d_M_multiply_56 : decode b_M_multiply 56 = .ok (.aload_n 0, 1) := by decide +kernel
theorem d_M_multiply_57 : decode b_M_multiply 57 = .ok (.getfield 35, 3) := by decide +kernel
theorem d_M_multiply_60 : decode b_M_multiply 60 = .ok (.iload_n 3, 1) := by decide +kernel
theorem d_M_multiply_61 : decode b_M_multiply 61 = .ok (.iload_n 2, 1) := by decide +kernel
theorem d_M_multiply_62 : decode b_M_multiply 62 = .ok (.iload_n 1, 1) := by decide +kernel
theorem d_M_multiply_63 : decode b_M_multiply 63 = .ok (.ifCond .eq 12, 3) := by decide +kernel
theorem d_M_multiply_66 : decode b_M_multiply 66 = .ok (.aload_n 0, 1) := by decide +kernel
theorem d_M_multiply_67 : decode b_M_multiply 67 = .ok (.getfield 38, 3) := by decide +kernel
theorem d_M_multiply_70 : decode b_M_multiply 70 = .ok (.iload_n 3, 1) := by decide +kernel
theorem d_M_multiply_71 : decode b_M_multiply 71 = .ok (.iaload, 1) := by decide +kernel
theorem d_M_multiply_72 : decode b_M_multiply 72 = .ok (.goto 9, 3) := by decide +kernel
theorem d_M_multiply_75 : decode b_M_multiply 75 = .ok (.aload_n 0, 1) := by decide +kernel
theorem d_M_multiply_76 : decode b_M_multiply 76 = .ok (.getfield 35, 3) := by decide +kernel
theorem d_M_multiply_79 : decode b_M_multiply 79 = .ok (.iload_n 3, 1) := by decide +kernel
theorem d_M_multiply_80 : decode b_M_multiply 80 = .ok (.iaload, 1) := by decide +kernel
theorem d_M_multiply_81 : decode b_M_multiply 81 = .ok (.imul, 1) := by decide +kernel
theorem d_M_multiply_82 : decode b_M_multiply 82 = .ok (.bipush 97, 2) := by decide +kernel
theorem d_M_multiply_84 : decode b_M_multiply 84 = .ok (.irem, 1) := by decide +kernel
theorem d_M_multiply_85 : decode b_M_multiply 85 = .ok (.iastore, 1) := by decide +kernel
theorem d_M_multiply_86 : decode b_M_multiply 86 = .ok (.iinc 3 1, 3) := by decide +kernel
theorem d_M_multiply_89 : decode b_M_multiply 89 = .ok (.goto (-39), 3) := by decide +kernel
theorem d_M_multiply_92 : decode b_M_multiply 92 = .ok (.return_, 1) := by decide +kernel
theorem d_M_multiply_93 : decode b_M_multiply 93 = .ok (.aload_n 0, 1) := by decide +kernel
theorem d_M_multiply_94 : decode b_M_multiply 94 = .ok (.getfield 72, 3) := by decide +kernel
theorem d_M_multiply_97 : decode b_M_multiply 97 = .ok (.istore_n 1, 1) := by decide +kernel
theorem d_M_multiply_98 : decode b_M_multiply 98 = .ok (.aload_n 0, 1) := by decide +kernel
theorem d_M_multiply_99 : decode b_M_multiply 99 = .ok (.dup, 1) := by decide +kernel
theorem d_M_multiply_100 : decode b_M_multiply 100 = .ok (.getfield 72, 3) := by decide +kernel
theorem d_M_multiply_103 : decode b_M_multiply 103 = .ok (.iconst 1, 1) := by decide +kernel
theorem d_M_multiply_104 : decode b_M_multiply 104 = .ok (.iadd, 1) := by decide +kernel
theorem d_M_multiply_105 : decode b_M_multiply 105 = .ok (.putfield 72, 3) := by decide +kernel
theorem d_M_multiply_108 : decode b_M_multiply 108 = .ok (.aload_n 0, 1) := by decide +kernel
theorem d_M_multiply_109 : decode b_M_multiply 109 = .ok (.iconst 1, 1) := by decide +kernel
theorem d_M_multiply_110 : decode b_M_multiply 110 = .ok (.iload_n 1, 1) := by decide +kernel
theorem d_M_multiply_111 : decode b_M_multiply 111 = .ok (.invokevirtual 75, 3) := by decide +kernel
theorem d_M_multiply_114 : decode b_M_multiply 114 = .ok (.istore_n 2, 1) := by decide +kernel
theorem d_M_multiply_115 : decode b_M_multiply 115 = .ok (.aload_n 0, 1) := by decide +kernel
theorem d_M_multiply_116 : decode b_M_multiply 116 = .ok (.iload_n 1, 1) := by decide +kernel
theorem d_M_multiply_117 : decode b_M_multiply 117 = .ok (.iconst 0, 1) := by decide +kernel
theorem d_M_multiply_118 : decode b_M_multiply 118 = .ok (.aload_n 0, 1) := by decide +kernel
theorem d_M_multiply_119 : decode b_M_multiply 119 = .ok (.getfield 35, 3) := by decide +kernel
theorem d_M_multiply_122 : decode b_M_multiply 122 = .ok (.invokevirtual 79, 3) := by decide +kernel
theorem d_M_multiply_125 : decode b_M_multiply 125 = .ok (.aload_n 0, 1) := by decide +kernel
theorem d_M_multiply_126 : decode b_M_multiply 126 = .ok (.iload_n 1, 1) := by decide +kernel
theorem d_M_multiply_127 : decode b_M_multiply 127 = .ok (.iconst 1, 1) := by decide +kernel
theorem d_M_multiply_128 : decode b_M_multiply 128 = .ok (.aload_n 0, 1) := by decide +kernel
theorem d_M_multiply_129 : decode b_M_multiply 129 = .ok (.getfield 38, 3) := by decide +kernel
theorem d_M_multiply_132 : decode b_M_multiply 132 = .ok (.invokevirtual 79, 3) := by decide +kernel
theorem d_M_multiply_135 : decode b_M_multiply 135 = .ok (.aload_n 0, 1) := by decide +kernel
theorem d_M_multiply_136 : decode b_M_multiply 136 = .ok (.getfield 35, 3) := by decide +kernel
theorem d_M_multiply_139 : decode b_M_multiply 139 = .ok (.iload_n 2, 1) := by decide +kernel
theorem d_M_multiply_140 : decode b_M_multiply 140 = .ok (.invokestatic 83, 3) := by decide +kernel
theorem d_M_multiply_143 : decode b_M_multiply 143 = .ok (.aload_n 0, 1) := by decide +kernel
theorem d_M_multiply_144 : decode b_M_multiply 144 = .ok (.iload_n 1, 1) := by decide +kernel
theorem d_M_multiply_145 : decode b_M_multiply 145 = .ok (.iconst 2, 1) := by decide +kernel
theorem d_M_multiply_146 : decode b_M_multiply 146 = .ok (.aload_n 0, 1) := by decide +kernel
theorem d_M_multiply_147 : decode b_M_multiply 147 = .ok (.getfield 35, 3) := by decide +kernel
theorem d_M_multiply_150 : decode b_M_multiply 150 = .ok (.invokevirtual 79, 3) := by decide +kernel
theorem d_M_multiply_153 : decode b_M_multiply 153 = .ok (.return_, 1) := by decide +kernel
theorem d_M_keep_0 : decode b_M_keep 0 = .ok (.iconst 0, 1) := by decide +kernel
theorem d_M_keep_1 : decode b_M_keep 1 = .ok (.istore 4, 2) := by decide +kernel
theorem d_M_keep_3 : decode b_M_keep 3 = .ok (.iload 4, 2) := by decide +kernel
theorem d_M_keep_5 : decode b_M_keep 5 = .ok (.bipush 60, 2) := by decide +kernel
theorem d_M_keep_7 : decode b_M_keep 7 = .ok (.if_icmp .ge 31, 3) := by decide +kernel
theorem d_M_keep_10 : decode b_M_keep 10 = .ok (.aload_n 0, 1) := by decide +kernel
theorem d_M_keep_11 : decode b_M_keep 11 = .ok (.getfield 32, 3) := by decide +kernel
theorem d_M_keep_14 : decode b_M_keep 14 = .ok (.sipush 180, 3) := by decide +kernel
theorem d_M_keep_17 : decode b_M_keep 17 = .ok (.iload_n 1, 1) := by decide +kernel
theorem d_M_keep_18 : decode b_M_keep 18 = .ok (.imul, 1) := by decide +kernel
theorem d_M_keep_19 : decode b_M_keep 19 = .ok (.bipush 60, 2) := by decide +kernel
theorem d_M_keep_21 : decode b_M_keep 21 = .ok (.iload_n 2, 1) := by decide +kernel
theorem d_M_keep_22 : decode b_M_keep 22 = .ok (.imul, 1) := by decide +kernel
theorem d_M_keep_23 : decode b_M_keep 23 = .ok (.iadd, 1) := by decide +kernel
theorem d_M_keep_24 : decode b_M_keep 24 = .ok (.iload 4, 2) := by decide +kernel
theorem d_M_keep_26 : decode b_M_keep 26 = .ok (.iadd, 1) := by decide +kernel
theorem d_M_keep_27 : decode b_M_keep 27 = .ok (.aload_n 3, 1) := by decide +kernel
theorem d_M_keep_28 : decode b_M_keep 28 = .ok (.iload 4, 2) := by decide +kernel
theorem d_M_keep_30 : decode b_M_keep 30 = .ok (.iaload, 1) := by decide +kernel
theorem d_M_keep_31 : decode b_M_keep 31 = .ok (.iastore, 1) := by decide +kernel
theorem d_M_keep_32 : decode b_M_keep 32 = .ok (.iinc 4 1, 3) := by decide +kernel
theorem d_M_keep_35 : decode b_M_keep 35 = .ok (.goto (-32), 3) := by decide +kernel
theorem d_M_keep_38 : decode b_M_keep 38 = .ok (.return_, 1) := by decide +kernel
theorem d_M_share_0 : decode b_M_share 0 = .ok (.aload_n 0, 1) := by decide +kernel
theorem d_M_share_1 : decode b_M_share 1 = .ok (.getfield 72, 3) := by decide +kernel
theorem d_M_share_4 : decode b_M_share 4 = .ok (.istore_n 3, 1) := by decide +kernel
theorem d_M_share_5 : decode b_M_share 5 = .ok (.aload_n 0, 1) := by decide +kernel
theorem d_M_share_6 : decode b_M_share 6 = .ok (.dup, 1) := by decide +kernel
theorem d_M_share_7 : decode b_M_share 7 = .ok (.getfield 72, 3) := by decide +kernel
theorem d_M_share_10 : decode b_M_share 10 = .ok (.iconst 2, 1) := by decide +kernel
theorem d_M_share_11 : decode b_M_share 11 = .ok (.iadd, 1) := by decide +kernel
theorem d_M_share_12 : decode b_M_share 12 = .ok (.putfield 72, 3) := by decide +kernel
theorem d_M_share_15 : decode b_M_share 15 = .ok (.aload_n 0, 1) := by decide +kernel
theorem d_M_share_16 : decode b_M_share 16 = .ok (.iconst 2, 1) := by decide +kernel
theorem d_M_share_17 : decode b_M_share 17 = .ok (.iload_n 3, 1) := by decide +kernel
theorem d_M_share_18 : decode b_M_share 18 = .ok (.invokevirtual 75, 3) := by decide +kernel
theorem d_M_share_21 : decode b_M_share 21 = .ok (.istore 4, 2) := by decide +kernel
theorem d_M_share_23 : decode b_M_share 23 = .ok (.aload_n 0, 1) := by decide +kernel
theorem d_M_share_24 : decode b_M_share 24 = .ok (.iconst 1, 1) := by decide +kernel
theorem d_M_share_25 : decode b_M_share 25 = .ok (.iload_n 3, 1) := by decide +kernel
theorem d_M_share_26 : decode b_M_share 26 = .ok (.iconst 1, 1) := by decide +kernel
theorem d_M_share_27 : decode b_M_share 27 = .ok (.iadd, 1) := by decide +kernel
theorem d_M_share_28 : decode b_M_share 28 = .ok (.invokevirtual 75, 3) := by decide +kernel
theorem d_M_share_31 : decode b_M_share 31 = .ok (.istore 5, 2) := by decide +kernel
theorem d_M_share_33 : decode b_M_share 33 = .ok (.aload_n 0, 1) := by decide +kernel
theorem d_M_share_34 : decode b_M_share 34 = .ok (.aload_n 0, 1) := by decide +kernel
theorem d_M_share_35 : decode b_M_share 35 = .ok (.getfield 41, 3) := by decide +kernel
theorem d_M_share_38 : decode b_M_share 38 = .ok (.iload_n 2, 1) := by decide +kernel
theorem d_M_share_39 : decode b_M_share 39 = .ok (.invokevirtual 100, 3) := by decide +kernel
theorem d_M_share_42 : decode b_M_share 42 = .ok (.aload_n 0, 1) := by decide +kernel
theorem d_M_share_43 : decode b_M_share 43 = .ok (.iload_n 3, 1) := by decide +kernel
theorem d_M_share_44 : decode b_M_share 44 = .ok (.iconst 0, 1) := by decide +kernel
theorem d_M_share_45 : decode b_M_share 45 = .ok (.aload_n 0, 1) := by decide +kernel
theorem d_M_share_46 : decode b_M_share 46 = .ok (.getfield 41, 3) := by decide +kernel
theorem d_M_share_49 : decode b_M_share 49 = .ok (.invokevirtual 79, 3) := by decide +kernel
theorem d_M_share_52 : decode b_M_share 52 = .ok (.aload_n 0, 1) := by decide +kernel
theorem d_M_share_53 : decode b_M_share 53 = .ok (.aload_n 0, 1) := by decide +kernel
theorem d_M_share_54 : decode b_M_share 54 = .ok (.getfield 41, 3) := by decide +kernel
theorem d_M_share_57 : decode b_M_share 57 = .ok (.iload_n 1, 1) := by decide +kernel
theorem d_M_share_58 : decode b_M_share 58 = .ok (.invokevirtual 100, 3) := by decide +kernel
theorem d_M_share_61 : decode b_M_share 61 = .ok (.aload_n 0, 1) := by decide +kernel
theorem d_M_share_62 : decode b_M_share 62 = .ok (.iload_n 3, 1) := by decide +kernel
theorem d_M_share_63 : decode b_M_share 63 = .ok (.iconst 1, 1) := by decide +kernel
theorem d_M_share_64 : decode b_M_share 64 = .ok (.iadd, 1) := by decide +kernel
theorem d_M_share_65 : decode b_M_share 65 = .ok (.iconst 0, 1) := by decide +kernel
theorem d_M_share_66 : decode b_M_share 66 = .ok (.aload_n 0, 1) := by decide +kernel
theorem d_M_share_67 : decode b_M_share 67 = .ok (.getfield 41, 3) := by decide +kernel
theorem d_M_share_70 : decode b_M_share 70 = .ok (.invokevirtual 79, 3) := by decide +kernel
theorem d_M_share_73 : decode b_M_share 73 = .ok (.aload_n 0, 1) := by decide +kernel
theorem d_M_share_74 : decode b_M_share 74 = .ok (.getfield 41, 3) := by decide +kernel
theorem d_M_share_77 : decode b_M_share 77 = .ok (.iload 4, 2) := by decide +kernel
theorem d_M_share_79 : decode b_M_share 79 = .ok (.invokestatic 83, 3) := by decide +kernel
theorem d_M_share_82 : decode b_M_share 82 = .ok (.aload_n 0, 1) := by decide +kernel
theorem d_M_share_83 : decode b_M_share 83 = .ok (.iload_n 3, 1) := by decide +kernel
theorem d_M_share_84 : decode b_M_share 84 = .ok (.iconst 1, 1) := by decide +kernel
theorem d_M_share_85 : decode b_M_share 85 = .ok (.aload_n 0, 1) := by decide +kernel
theorem d_M_share_86 : decode b_M_share 86 = .ok (.getfield 41, 3) := by decide +kernel
theorem d_M_share_89 : decode b_M_share 89 = .ok (.invokevirtual 79, 3) := by decide +kernel
theorem d_M_share_92 : decode b_M_share 92 = .ok (.aload_n 0, 1) := by decide +kernel
theorem d_M_share_93 : decode b_M_share 93 = .ok (.iload_n 3, 1) := by decide +kernel
theorem d_M_share_94 : decode b_M_share 94 = .ok (.iconst 1, 1) := by decide +kernel
theorem d_M_share_95 : decode b_M_share 95 = .ok (.iadd, 1) := by decide +kernel
theorem d_M_share_96 : decode b_M_share 96 = .ok (.iconst 1, 1) := by decide +kernel
theorem d_M_share_97 : decode b_M_share 97 = .ok (.aload_n 0, 1) := by decide +kernel
theorem d_M_share_98 : decode b_M_share 98 = .ok (.getfield 41, 3) := by decide +kernel
theorem d_M_share_101 : decode b_M_share 101 = .ok (.invokevirtual 79, 3) := by decide +kernel
theorem d_M_share_104 : decode b_M_share 104 = .ok (.aload_n 0, 1) := by decide +kernel
theorem d_M_share_105 : decode b_M_share 105 = .ok (.getfield 41, 3) := by decide +kernel
theorem d_M_share_108 : decode b_M_share 108 = .ok (.iconst 1, 1) := by decide +kernel
theorem d_M_share_109 : decode b_M_share 109 = .ok (.invokestatic 64, 3) := by decide +kernel
theorem d_M_share_112 : decode b_M_share 112 = .ok (.aload_n 0, 1) := by decide +kernel
theorem d_M_share_113 : decode b_M_share 113 = .ok (.iload_n 3, 1) := by decide +kernel
theorem d_M_share_114 : decode b_M_share 114 = .ok (.iconst 2, 1) := by decide +kernel
