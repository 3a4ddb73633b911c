theorem d_M_arithmetic_187 : decode b_M_arithmetic 187 = .ok (.invokestatic 47, 3) := by decide +kernel
theorem d_M_arithmetic_190 : decode b_M_arithmetic 190 = .ok (.ireturn, 1) := by decide +kernel
theorem d_M_arithmetic_191 : decode b_M_arithmetic 191 = .ok (.bipush 59, 2) := by decide +kernel
theorem d_M_arithmetic_193 : decode b_M_arithmetic 193 = .ok (.iload_n 1, 1) := by decide +kernel
theorem d_M_arithmetic_194 : decode b_M_arithmetic 194 = .ok (.iconst 0, 1) := by decide +kernel
theorem d_M_arithmetic_195 : decode b_M_arithmetic 195 = .ok (.iload_n 1, 1) := by decide +kernel
theorem d_M_arithmetic_196 : decode b_M_arithmetic 196 = .ok (.iload_n 2, 1) := by decide +kernel
theorem d_M_arithmetic_197 : decode b_M_arithmetic 197 = .ok (.iconst 0, 1) := by decide +kernel
theorem d_M_arithmetic_198 : decode b_M_arithmetic 198 = .ok (.invokestatic 47, 3) := by decide +kernel
theorem d_M_arithmetic_201 : decode b_M_arithmetic 201 = .ok (.ireturn, 1) := by decide +kernel
theorem d_M_arithmetic_202 : decode b_M_arithmetic 202 = .ok (.iconst 0, 1) := by decide +kernel
theorem d_M_arithmetic_203 : decode b_M_arithmetic 203 = .ok (.ireturn, 1) := by decide +kernel
theorem d_M_upper_0 : decode b_M_upper 0 = .ok (.iload_n 1, 1) := by decide +kernel
theorem d_M_upper_1 : decode b_M_upper 1 = .ok (.iconst 2, 1) := by decide +kernel
theorem d_M_upper_2 : decode b_M_upper 2 = .ok (.if_icmp .ne 77, 3) := by decide +kernel
theorem d_M_upper_5 : decode b_M_upper 5 = .ok (.sipush 128, 3) := by decide +kernel
theorem d_M_upper_8 : decode b_M_upper 8 = .ok (.aload_n 0, 1) := by decide +kernel
theorem d_M_upper_9 : decode b_M_upper 9 = .ok (.iconst 4, 1) := by decide +kernel
theorem d_M_upper_10 : decode b_M_upper 10 = .ok (.iconst 3, 1) := by decide +kernel
theorem d_M_upper_11 : decode b_M_upper 11 = .ok (.invokevirtual 27, 3) := by decide +kernel
theorem d_M_upper_14 : decode b_M_upper 14 = .ok (.imul, 1) := by decide +kernel
theorem d_M_upper_15 : decode b_M_upper 15 = .ok (.bipush 64, 2) := by decide +kernel
theorem d_M_upper_17 : decode b_M_upper 17 = .ok (.aload_n 0, 1) := by decide +kernel
theorem d_M_upper_18 : decode b_M_upper 18 = .ok (.iconst 5, 1) := by decide +kernel
theorem d_M_upper_19 : decode b_M_upper 19 = .ok (.iconst 5, 1) := by decide +kernel
theorem d_M_upper_20 : decode b_M_upper 20 = .ok (.invokevirtual 27, 3) := by decide +kernel
theorem d_M_upper_23 : decode b_M_upper 23 = .ok (.imul, 1) := by decide +kernel
theorem d_M_upper_24 : decode b_M_upper 24 = .ok (.iadd, 1) := by decide +kernel
theorem d_M_upper_25 : decode b_M_upper 25 = .ok (.bipush 32, 2) := by decide +kernel
theorem d_M_upper_27 : decode b_M_upper 27 = .ok (.aload_n 0, 1) := by decide +kernel
theorem d_M_upper_28 : decode b_M_upper 28 = .ok (.iconst 2, 1) := by decide +kernel
theorem d_M_upper_29 : decode b_M_upper 29 = .ok (.iconst 2, 1) := by decide +kernel
theorem d_M_upper_30 : decode b_M_upper 30 = .ok (.invokevirtual 27, 3) := by decide +kernel
theorem d_M_upper_33 : decode b_M_upper 33 = .ok (.imul, 1) := by decide +kernel
theorem d_M_upper_34 : decode b_M_upper 34 = .ok (.iadd, 1) := by decide +kernel
theorem d_M_upper_35 : decode b_M_upper 35 = .ok (.bipush 16, 2) := by decide +kernel
theorem d_M_upper_37 : decode b_M_upper 37 = .ok (.aload_n 0, 1) := by decide +kernel
theorem d_M_upper_38 : decode b_M_upper 38 = .ok (.bipush 6, 2) := by decide +kernel
theorem d_M_upper_40 : decode b_M_upper 40 = .ok (.bipush 6, 2) := by decide +kernel
theorem d_M_upper_42 : decode b_M_upper 42 = .ok (.invokevirtual 27, 3) := by decide +kernel
theorem d_M_upper_45 : decode b_M_upper 45 = .ok (.imul, 1) := by decide +kernel
theorem d_M_upper_46 : decode b_M_upper 46 = .ok (.iadd, 1) := by decide +kernel
theorem d_M_upper_47 : decode b_M_upper 47 = .ok (.sipush 512, 3) := by decide +kernel
theorem d_M_upper_50 : decode b_M_upper 50 = .ok (.aload_n 0, 1) := by decide +kernel
theorem d_M_upper_51 : decode b_M_upper 51 = .ok (.bipush 12, 2) := by decide +kernel
theorem d_M_upper_53 : decode b_M_upper 53 = .ok (.bipush 12, 2) := by decide +kernel
theorem d_M_upper_55 : decode b_M_upper 55 = .ok (.invokevirtual 27, 3) := by decide +kernel
theorem d_M_upper_58 : decode b_M_upper 58 = .ok (.imul, 1) := by decide +kernel
theorem d_M_upper_59 : decode b_M_upper 59 = .ok (.isub, 1) := by decide +kernel
theorem d_M_upper_60 : decode b_M_upper 60 = .ok (.istore_n 2, 1) := by decide +kernel
theorem d_M_upper_61 : decode b_M_upper 61 = .ok (.iload_n 2, 1) := by decide +kernel
theorem d_M_upper_62 : decode b_M_upper 62 = .ok (.ifCond .ne 7, 3) := by decide +kernel
theorem d_M_upper_65 : decode b_M_upper 65 = .ok (.iconst 0, 1) := by decide +kernel
theorem d_M_upper_66 : decode b_M_upper 66 = .ok (.goto 12, 3) := by decide +kernel
theorem d_M_upper_69 : decode b_M_upper 69 = .ok (.bipush 19, 2) := by decide +kernel
theorem d_M_upper_71 : decode b_M_upper 71 = .ok (.iconst 2, 1) := by decide +kernel
theorem d_M_upper_72 : decode b_M_upper 72 = .ok (.iconst 0, 1) := by decide +kernel
theorem d_M_upper_73 : decode b_M_upper 73 = .ok (.iconst 2, 1) := by decide +kernel
theorem d_M_upper_74 : decode b_M_upper 74 = .ok (.iload_n 2, 1) := by decide +kernel
theorem d_M_upper_75 : decode b_M_upper 75 = .ok (.invokestatic 18, 3) := by decide +kernel
theorem d_M_upper_78 : decode b_M_upper 78 = .ok (.ireturn, 1) := by decide +kernel
theorem d_M_upper_79 : decode b_M_upper 79 = .ok (.aload_n 0, 1) := by decide +kernel
theorem d_M_upper_80 : decode b_M_upper 80 = .ok (.invokevirtual 44, 3) := by decide +kernel
theorem d_M_upper_83 : decode b_M_upper 83 = .ok (.ifCond .ne 7, 3) := by decide +kernel
theorem d_M_upper_86 : decode b_M_upper 86 = .ok (.iconst 0, 1) := by decide +kernel
theorem d_M_upper_87 : decode b_M_upper 87 = .ok (.goto 20, 3) := by decide +kernel
theorem d_M_upper_90 : decode b_M_upper 90 = .ok (.bipush 55, 2) := by decide +kernel
theorem d_M_upper_92 : decode b_M_upper 92 = .ok (.sipush 128, 3) := by decide +kernel
theorem d_M_upper_95 : decode b_M_upper 95 = .ok (.iload_n 1, 1) := by decide +kernel
theorem d_M_upper_96 : decode b_M_upper 96 = .ok (.imul, 1) := by decide +kernel
theorem d_M_upper_97 : decode b_M_upper 97 = .ok (.iadd, 1) := by decide +kernel
theorem d_M_upper_98 : decode b_M_upper 98 = .ok (.sipush 4096, 3) := by decide +kernel
theorem d_M_upper_101 : decode b_M_upper 101 = .ok (.aload_n 0, 1) := by decide +kernel
theorem d_M_upper_102 : decode b_M_upper 102 = .ok (.invokevirtual 44, 3) := by decide +kernel
theorem d_M_upper_105 : decode b_M_upper 105 = .ok (.imul, 1) := by decide +kernel
theorem d_M_upper_106 : decode b_M_upper 106 = .ok (.iadd, 1) := by decide +kernel
theorem d_M_upper_107 : decode b_M_upper 107 = .ok (.ireturn, 1) := by decide +kernel
theorem d_M_quadrant1_0 : decode b_M_quadrant1 0 = .ok (.aload_n 0, 1) := by decide +kernel
theorem d_M_quadrant1_1 : decode b_M_quadrant1 1 = .ok (.bipush 11, 2) := by decide +kernel
theorem d_M_quadrant1_3 : decode b_M_quadrant1 3 = .ok (.bipush 7, 2) := by decide +kernel
theorem d_M_quadrant1_5 : decode b_M_quadrant1 5 = .ok (.invokevirtual 27, 3) := by decide +kernel
theorem d_M_quadrant1_8 : decode b_M_quadrant1 8 = .ok (.istore_n 1, 1) := by decide +kernel
theorem d_M_quadrant1_9 : decode b_M_quadrant1 9 = .ok (.bipush 64, 2) := by decide +kernel
theorem d_M_quadrant1_11 : decode b_M_quadrant1 11 = .ok (.aload_n 0, 1) := by decide +kernel
theorem d_M_quadrant1_12 : decode b_M_quadrant1 12 = .ok (.bipush 6, 2) := by decide +kernel
theorem d_M_quadrant1_14 : decode b_M_quadrant1 14 = .ok (.iconst 5, 1) := by decide +kernel
theorem d_M_quadrant1_15 : decode b_M_quadrant1 15 = .ok (.invokevirtual 27, 3) := by decide +kernel
theorem d_M_quadrant1_18 : decode b_M_quadrant1 18 = .ok (.imul, 1) := by decide +kernel
theorem d_M_quadrant1_19 : decode b_M_quadrant1 19 = .ok (.bipush 32, 2) := by decide +kernel
theorem d_M_quadrant1_21 : decode b_M_quadrant1 21 = .ok (.aload_n 0, 1) := by decide +kernel
theorem d_M_quadrant1_22 : decode b_M_quadrant1 22 = .ok (.iconst 2, 1) := by decide +kernel
theorem d_M_quadrant1_23 : decode b_M_quadrant1 23 = .ok (.iconst 2, 1) := by decide +kernel
theorem d_M_quadrant1_24 : decode b_M_quadrant1 24 = .ok (.invokevirtual 27, 3) := by decide +kernel
theorem d_M_quadrant1_27 : decode b_M_quadrant1 27 = .ok (.imul, 1) := by decide +kernel
theorem d_M_quadrant1_28 : decode b_M_quadrant1 28 = .ok (.iadd, 1) := by decide +kernel
theorem d_M_quadrant1_29 : decode b_M_quadrant1 29 = .ok (.bipush 8, 2) := by decide +kernel
theorem d_M_quadrant1_31 : decode b_M_quadrant1 31 = .ok (.aload_n 0, 1) := by decide +kernel
theorem d_M_quadrant1_32 : decode b_M_quadrant1 32 = .ok (.bipush 11, 2) := by decide +kernel
theorem d_M_quadrant1_34 : decode b_M_quadrant1 34 = .ok (.bipush 10, 2) := by decide +kernel
theorem d_M_quadrant1_36 : decode b_M_quadrant1 36 = .ok (.invokevirtual 27, 3) := by decide +kernel
theorem d_M_quadrant1_39 : decode b_M_quadrant1 39 = .ok (.imul, 1) := by decide +kernel
theorem d_M_quadrant1_40 : decode b_M_quadrant1 40 = .ok (.iadd, 1) := by decide +kernel
theorem d_M_quadrant1_41 : decode b_M_quadrant1 41 = .ok (.iconst 2, 1) := by decide +kernel
theorem d_M_quadrant1_42 : decode b_M_quadrant1 42 = .ok (.aload_n 0, 1) := by decide +kernel
theorem d_M_quadrant1_43 : decode b_M_quadrant1 43 = .ok (.iconst 4, 1) := by decide +kernel
theorem d_M_quadrant1_44 : decode b_M_quadrant1 44 = .ok (.iconst 3, 1) := by decide +kernel
theorem d_M_quadrant1_45 : decode b_M_quadrant1 45 = .ok (.invokevirtual 27, 3) := by decide +kernel
theorem d_M_quadrant1_48 : decode b_M_quadrant1 48 = .ok (.imul, 1) := by decide +kernel
theorem d_M_quadrant1_49 : decode b_M_quadrant1 49 = .ok (.iadd, 1) := by decide +kernel
theorem d_M_quadrant1_50 : decode b_M_quadrant1 50 = .ok (.sipush 256, 3) := by decide +kernel
theorem d_M_quadrant1_53 : decode b_M_quadrant1 53 = .ok (.aload_n 0, 1) := by decide +kernel
theorem d_M_quadrant1_54 : decode b_M_quadrant1 54 = .ok (.bipush 12, 2) := by decide +kernel
theorem d_M_quadrant1_56 : decode b_M_quadrant1 56 = .ok (.bipush 12, 2) := by decide +kernel
theorem d_M_quadrant1_58 : decode b_M_quadrant1 58 = .ok (.invokevirtual 27, 3) := by decide +kernel
theorem d_M_quadrant1_61 : decode b_M_quadrant1 61 = .ok (.imul, 1) := by decide +kernel
theorem d_M_quadrant1_62 : decode b_M_quadrant1 62 = .ok (.isub, 1) := by decide +kernel
theorem d_M_quadrant1_63 : decode b_M_quadrant1 63 = .ok (.istore_n 2, 1) := by decide +kernel
theorem d_M_quadrant1_64 : decode b_M_quadrant1 64 = .ok (.aload_n 0, 1) := by decide +kernel
theorem d_M_quadrant1_65 : decode b_M_quadrant1 65 = .ok (.bipush 15, 2) := by decide +kernel
theorem d_M_quadrant1_67 : decode b_M_quadrant1 67 = .ok (.bipush 13, 2) := by decide +kernel
theorem d_M_quadrant1_69 : decode b_M_quadrant1 69 = .ok (.invokevirtual 27, 3) := by decide +kernel
theorem d_M_quadrant1_72 : decode b_M_quadrant1 72 = .ok (.tableswitch 217 0 6 #[44, 57, 78, 91, 97, 102, 200], 44) := by decide +kernel
theorem d_M_quadrant1_116 : decode b_M_quadrant1 116 = .ok (.bipush 19, 2) := by decide +kernel
theorem d_M_quadrant1_118 : decode b_M_quadrant1 118 = .ok (.iload_n 1, 1) := by decide +kernel
theorem d_M_quadrant1_119 : decode b_M_quadrant1 119 = .ok (.iconst 0, 1) := by decide +kernel
theorem d_M_quadrant1_120 : decode b_M_quadrant1 120 = .ok (.iload_n 1, 1) := by decide +kernel
theorem d_M_quadrant1_121 : decode b_M_quadrant1 121 = .ok (.aload_n 0, 1) := by decide +kernel
theorem d_M_quadrant1_122 : decode b_M_quadrant1 122 = .ok (.invokevirtual 44, 3) := by decide +kernel
theorem d_M_quadrant1_125 : decode b_M_quadrant1 125 = .ok (.invokestatic 18, 3) := by decide +kernel
theorem d_M_quadrant1_128 : decode b_M_quadrant1 128 = .ok (.ireturn, 1) := by decide +kernel
theorem d_M_quadrant1_129 : decode b_M_quadrant1 129 = .ok (.iload_n 1, 1) := by decide +kernel
theorem d_M_quadrant1_130 : decode b_M_quadrant1 130 = .ok (.ifCond .ne 7, 3) := by decide +kernel
theorem d_M_quadrant1_133 : decode b_M_quadrant1 133 = .ok (.iconst 0, 1) := by decide +kernel
theorem d_M_quadrant1_134 : decode b_M_quadrant1 134 = .ok (.goto 15, 3) := by decide +kernel
theorem d_M_quadrant1_137 : decode b_M_quadrant1 137 = .ok (.bipush 27, 2) := by decide +kernel
theorem d_M_quadrant1_139 : decode b_M_quadrant1 139 = .ok (.iload_n 1, 1) := by decide +kernel
theorem d_M_quadrant1_140 : decode b_M_quadrant1 140 = .ok (.iconst 0, 1) := by decide +kernel
theorem d_M_quadrant1_141 : decode b_M_quadrant1 141 = .ok (.iload_n 1, 1) := by decide +kernel
theorem d_M_quadrant1_142 : decode b_M_quadrant1 142 = .ok (.aload_n 0, 1) := by decide +kernel
theorem d_M_quadrant1_143 : decode b_M_quadrant1 143 = .ok (.invokevirtual 44, 3) := by decide +kernel
theorem d_M_quadrant1_146 : decode b_M_quadrant1 146 = .ok (.invokestatic 18, 3) := by decide +kernel
theorem d_M_quadrant1_149 : decode b_M_quadrant1 149 = .ok (.ireturn, 1) := by decide +kernel
theorem d_M_quadrant1_150 : decode b_M_quadrant1 150 = .ok (.bipush 19, 2) := by decide +kernel
theorem d_M_quadrant1_152 : decode b_M_quadrant1 152 = .ok (.iload_n 1, 1) := by decide +kernel
theorem d_M_quadrant1_153 : decode b_M_quadrant1 153 = .ok (.iconst 0, 1) := by decide +kernel
theorem d_M_quadrant1_154 : decode b_M_quadrant1 154 = .ok (.iconst 0, 1) := by decide +kernel
theorem d_M_quadrant1_155 : decode b_M_quadrant1 155 = .ok (.aload_n 0, 1) := by decide +kernel
theorem d_M_quadrant1_156 : decode b_M_quadrant1 156 = .ok (.invokevirtual 44, 3) := by decide +kernel
theorem d_M_quadrant1_159 : decode b_M_quadrant1 159 = .ok (.invokestatic 18, 3) := by decide +kernel
theorem d_M_quadrant1_162 : decode b_M_quadrant1 162 = .ok (.ireturn, 1) := by decide +kernel
theorem d_M_quadrant1_163 : decode b_M_quadrant1 163 = .ok (.aload_n 0, 1) := by decide +kernel
theorem d_M_quadrant1_164 : decode b_M_quadrant1 164 = .ok (.iload_n 1, 1) := by decide +kernel
theorem d_M_quadrant1_165 : decode b_M_quadrant1 165 = .ok (.invokevirtual 51, 3) := by decide +kernel
theorem d_M_quadrant1_168 : decode b_M_quadrant1 168 = .ok (.ireturn, 1) := by decide +kernel
theorem d_M_quadrant1_169 : decode b_M_quadrant1 169 = .ok (.aload_n 0, 1) := by decide +kernel
theorem d_M_quadrant1_170 : decode b_M_quadrant1 170 = .ok (.invokevirtual 55, 3) := by decide +kernel
theorem d_M_quadrant1_173 : decode b_M_quadrant1 173 = .ok (.ireturn, 1) := by decide +kernel
theorem d_M_quadrant1_174 : decode b_M_quadrant1 174 = .ok (.sipush 1024, 3) := by decide +kernel
theorem d_M_quadrant1_177 : decode b_M_quadrant1 177 = .ok (.aload_n 0, 1) := by decide +kernel
theorem d_M_quadrant1_178 : decode b_M_quadrant1 178 = .ok (.bipush 8, 2) := by decide +kernel
theorem d_M_quadrant1_180 : decode b_M_quadrant1 180 = .ok (.bipush 8, 2) := by decide +kernel
theorem d_M_quadrant1_182 : decode b_M_quadrant1 182 = .ok (.invokevirtual 27, 3) := by decide +kernel
theorem d_M_quadrant1_185 : decode b_M_quadrant1 185 = .ok (.imul, 1) := by decide +kernel
theorem d_M_quadrant1_186 : decode b_M_quadrant1 186 = .ok (.sipush 256, 3) := by decide +kernel
theorem d_M_quadrant1_189 : decode b_M_quadrant1 189 = .ok (.aload_n 0, 1) := by decide +kernel
theorem d_M_quadrant1_190 : decode b_M_quadrant1 190 = .ok (.bipush 10, 2) := by decide +kernel
theorem d_M_quadrant1_192 : decode b_M_quadrant1 192 = .ok (.bipush 9, 2) := by decide +kernel
theorem d_M_quadrant1_194 : decode b_M_quadrant1 194 = .ok (.invokevirtual 27, 3) := by decide +kernel
theorem d_M_quadrant1_197 : decode b_M_quadrant1 197 = .ok (.imul, 1) := by decide +kernel
theorem d_M_quadrant1_198 : decode b_M_quadrant1 198 = .ok (.iadd, 1) := by decide +kernel
theorem d_M_quadrant1_199 : decode b_M_quadrant1 199 = .ok (.sipush 128, 3) := by decide +kernel
theorem d_M_quadrant1_202 : decode b_M_quadrant1 202 = .ok (.aload_n 0, 1) := by decide +kernel
theorem d_M_quadrant1_203 : decode b_M_quadrant1 203 = .ok (.bipush 6, 2) := by decide +kernel
theorem d_M_quadrant1_205 : decode b_M_quadrant1 205 = .ok (.bipush 6, 2) := by decide +kernel
theorem d_M_quadrant1_207 : decode b_M_quadrant1 207 = .ok (.invokevirtual 27, 3) := by decide +kernel
theorem d_M_quadrant1_210 : decode b_M_quadrant1 210 = .ok (.imul, 1) := by decide +kernel
theorem d_M_quadrant1_211 : decode b_M_quadrant1 211 = .ok (.iadd, 1) := by decide +kernel
theorem d_M_quadrant1_212 : decode b_M_quadrant1 212 = .ok (.bipush 64, 2) := by decide +kernel
theorem d_M_quadrant1_214 : decode b_M_quadrant1 214 = .ok (.aload_n 0, 1) := by decide +kernel
theorem d_M_quadrant1_215 : decode b_M_quadrant1 215 = .ok (.bipush 7, 2) := by decide +kernel
theorem d_M_quadrant1_217 : decode b_M_quadrant1 217 = .ok (.bipush 7, 2) := by decide +kernel
theorem d_M_quadrant1_219 : decode b_M_quadrant1 219 = .ok (.invokevirtual 27, 3) := by decide +kernel
theorem d_M_quadrant1_222 : decode b_M_quadrant1 222 = .ok (.imul, 1) := by decide +kernel
theorem d_M_quadrant1_223 : decode b_M_quadrant1 223 = .ok (.iadd, 1) := by decide +kernel
theorem d_M_quadrant1_224 : decode b_M_quadrant1 224 = .ok (.bipush 32, 2) := by decide +kernel
theorem d_M_quadrant1_226 : decode b_M_quadrant1 226 = .ok (.aload_n 0, 1) := by decide +kernel
theorem d_M_quadrant1_227 : decode b_M_quadrant1 227 = .ok (.iconst 2, 1) := by decide +kernel
theorem d_M_quadrant1_228 : decode b_M_quadrant1 228 = .ok (.iconst 2, 1) := by decide +kernel
theorem d_M_quadrant1_229 : decode b_M_quadrant1 229 = .ok (.invokevirtual 27, 3) := by decide +kernel
theorem d_M_quadrant1_232 : decode b_M_quadrant1 232 = .ok (.imul, 1) := by decide +kernel
theorem d_M_quadrant1_233 : decode b_M_quadrant1 233 = .ok (.iadd, 1) := by decide +kernel
theorem d_M_quadrant1_234 : decode b_M_quadrant1 234 = .ok (.bipush 16, 2) := by decide +kernel
theorem d_M_quadrant1_236 : decode b_M_quadrant1 236 = .ok (.aload_n 0, 1) := by decide +kernel
theorem d_M_quadrant1_237 : decode b_M_quadrant1 237 = .ok (.bipush 11, 2) := by decide +kernel
theorem d_M_quadrant1_239 : decode b_M_quadrant1 239 = .ok (.bipush 11, 2) := by decide +kernel
theorem d_M_quadrant1_241 : decode b_M_quadrant1 241 = .ok (.invokevirtual 27, 3) := by decide +kernel
theorem d_M_quadrant1_244 : decode b_M_quadrant1 244 = .ok (.imul, 1) := by decide +kernel
theorem d_M_quadrant1_245 : decode b_M_quadrant1 245 = .ok (.iadd, 1) := by decide +kernel
theorem d_M_quadrant1_246 : decode b_M_quadrant1 246 = .ok (.iconst 2, 1) := by decide +kernel
theorem d_M_quadrant1_247 : decode b_M_quadrant1 247 = .ok (.aload_n 0, 1) := by decide +kernel
theorem d_M_quadrant1_248 : decode b_M_quadrant1 248 = .ok (.iconst 5, 1) := by decide +kernel
theorem d_M_quadrant1_249 : decode b_M_quadrant1 249 = .ok (.iconst 3, 1) := by decide +kernel
theorem d_M_quadrant1_250 : decode b_M_quadrant1 250 = .ok (.invokevirtual 27, 3) := by decide +kernel
theorem d_M_quadrant1_253 : decode b_M_quadrant1 253 = .ok (.imul, 1) := by decide +kernel
theorem d_M_quadrant1_254 : decode b_M_quadrant1 254 = .ok (.iadd, 1) := by decide +kernel
theorem d_M_quadrant1_255 : decode b_M_quadrant1 255 = .ok (.sipush 2048, 3) := by decide +kernel
theorem d_M_quadrant1_258 : decode b_M_quadrant1 258 = .ok (.aload_n 0, 1) := by decide +kernel
theorem d_M_quadrant1_259 : decode b_M_quadrant1 259 = .ok (.bipush 12, 2) := by decide +kernel
theorem d_M_quadrant1_261 : decode b_M_quadrant1 261 = .ok (.bipush 12, 2) := by decide +kernel
theorem d_M_quadrant1_263 : decode b_M_quadrant1 263 = .ok (.invokevirtual 27, 3) := by decide +kernel
theorem d_M_quadrant1_266 : decode b_M_quadrant1 266 = .ok (.imul, 1) := by decide +kernel
theorem d_M_quadrant1_267 : decode b_M_quadrant1 267 = .ok (.isub, 1) := by decide +kernel
theorem d_M_quadrant1_268 : decode b_M_quadrant1 268 = .ok (.invokestatic 58, 3) := by decide +kernel
theorem d_M_quadrant1_271 : decode b_M_quadrant1 271 = .ok (.ireturn, 1) := by decide +kernel
theorem d_M_quadrant1_272 : decode b_M_quadrant1 272 = .ok (.iconst 0, 1) := by decide +kernel
theorem d_M_quadrant1_273 : decode b_M_quadrant1 273 = .ok (.bipush 8, 2) := by decide +kernel
theorem d_M_quadrant1_275 : decode b_M_quadrant1 275 = .ok (.aload_n 0, 1) := by decide +kernel
theorem d_M_quadrant1_276 : decode b_M_quadrant1 276 = .ok (.bipush 9, 2) := by decide +kernel
theorem d_M_quadrant1_278 : decode b_M_quadrant1 278 = .ok (.bipush 7, 2) := by decide +kernel
theorem d_M_quadrant1_280 : decode b_M_quadrant1 280 = .ok (.invokevirtual 27, 3) := by decide +kernel
theorem d_M_quadrant1_283 : decode b_M_quadrant1 283 = .ok (.iadd, 1) := by decide +kernel
theorem d_M_quadrant1_284 : decode b_M_quadrant1 284 = .ok (.iload_n 2, 1) := by decide +kernel
theorem d_M_quadrant1_285 : decode b_M_quadrant1 285 = .ok (.invokestatic 61, 3) := by decide +kernel
theorem d_M_quadrant1_288 : decode b_M_quadrant1 288 = .ok (.ireturn, 1) := by decide +kernel
theorem d_M_quadrant1_289 : decode b_M_quadrant1 289 = .ok (.iconst 1, 1) := by decide +kernel
theorem d_M_quadrant1_290 : decode b_M_quadrant1 290 = .ok (.bipush 8, 2) := by decide +kernel
theorem d_M_quadrant1_292 : decode b_M_quadrant1 292 = .ok (.aload_n 0, 1) := by decide +kernel
theorem d_M_quadrant1_293 : decode b_M_quadrant1 293 = .ok (.bipush 9, 2) := by decide +kernel
theorem d_M_quadrant1_295 : decode b_M_quadrant1 295 = .ok (.bipush 7, 2) := by decide +kernel
theorem d_M_quadrant1_297 : decode b_M_quadrant1 297 = .ok (.invokevirtual 27, 3) := by decide +kernel
theorem d_M_quadrant1_300 : decode b_M_quadrant1 300 = .ok (.iadd, 1) := by decide +kernel
theorem d_M_quadrant1_301 : decode b_M_quadrant1 301 = .ok (.iload_n 2, 1) := by decide +kernel
theorem d_M_quadrant1_302 : decode b_M_quadrant1 302 = .ok (.invokestatic 61, 3) := by decide +kernel
theorem d_M_quadrant1_305 : decode b_M_quadrant1 305 = .ok (.ireturn, 1) := by decide +kernel
theorem d_M_jumps_0 : decode b_M_jumps 0 = .ok (.iload_n 2, 1) := by decide +kernel
theorem d_M_jumps_1 : decode b_M_jumps 1 = .ok (.ifCond .ne 32, 3) := by decide +kernel
theorem d_M_jumps_4 : decode b_M_jumps 4 = .ok (.aload_n 0, 1) := by decide +kernel
theorem d_M_jumps_5 : decode b_M_jumps 5 = .ok (.bipush 12, 2) := by decide +kernel
theorem d_M_jumps_7 : decode b_M_jumps 7 = .ok (.bipush 12, 2) := by decide +kernel
theorem d_M_jumps_9 : decode b_M_jumps 9 = .ok (.invokevirtual 27, 3) := by decide +kernel
theorem d_M_jumps_12 : decode b_M_jumps 12 = .ok (.ifCond .ne 21, 3) := by decide +kernel
theorem d_M_jumps_15 : decode b_M_jumps 15 = .ok (.iload_n 1, 1) := by decide +kernel
theorem d_M_jumps_16 : decode b_M_jumps 16 = .ok (.ifCond .ne 7, 3) := by decide +kernel
theorem d_M_jumps_19 : decode b_M_jumps 19 = .ok (.iconst 0, 1) := by decide +kernel
theorem d_M_jumps_20 : decode b_M_jumps 20 = .ok (.goto 12, 3) := by decide +kernel
theorem d_M_jumps_23 : decode b_M_jumps 23 = .ok (.bipush 103, 2) := by decide +kernel
theorem d_M_jumps_25 : decode b_M_jumps 25 = .ok (.iconst 0, 1) := by decide +kernel
theorem d_M_jumps_26 : decode b_M_jumps 26 = .ok (.iconst 0, 1) := by decide +kernel
theorem d_M_jumps_27 : decode b_M_jumps 27 = .ok (.iload_n 1, 1) := by decide +kernel
theorem d_M_jumps_28 : decode b_M_jumps 28 = .ok (.iconst 0, 1) := by decide +kernel
theorem d_M_jumps_29 : decode b_M_jumps 29 = .ok (.invokestatic 18, 3) := by decide +kernel
theorem d_M_jumps_32 : decode b_M_jumps 32 = .ok (.ireturn, 1) := by decide +kernel
theorem d_M_jumps_33 : decode b_M_jumps 33 = .ok (.iload_n 2, 1) := by decide +kernel
theorem d_M_jumps_34 : decode b_M_jumps 34 = .ok (.ifCond .ne 29, 3) := by decide +kernel
theorem d_M_jumps_37 : decode b_M_jumps 37 = .ok (.iload_n 1, 1) := by decide +kernel
theorem d_M_jumps_38 : decode b_M_jumps 38 = .ok (.ifCond .ne 15, 3) := by decide +kernel
theorem d_M_jumps_41 : decode b_M_jumps 41 = .ok (.bipush 115, 2) := by decide +kernel
theorem d_M_jumps_43 : decode b_M_jumps 43 = .ok (.iconst 0, 1) := by decide +kernel
theorem d_M_jumps_44 : decode b_M_jumps 44 = .ok (.iconst 0, 1) := by decide +kernel
theorem d_M_jumps_45 : decode b_M_jumps 45 = .ok (.iconst 0, 1) := by decide +kernel
theorem d_M_jumps_46 : decode b_M_jumps 46 = .ok (.iconst 1, 1) := by decide +kernel
theorem d_M_jumps_47 : decode b_M_jumps 47 = .ok (.invokestatic 18, 3) := by decide +kernel
theorem d_M_jumps_50 : decode b_M_jumps 50 = .ok (.goto 12, 3) := by decide +kernel
theorem d_M_jumps_53 : decode b_M_jumps 53 = .ok (.bipush 103, 2) := by decide +kernel
theorem d_M_jumps_55 : decode b_M_jumps 55 = .ok (.iconst 1, 1) := by decide +kernel
theorem d_M_jumps_56 : decode b_M_jumps 56 = .ok (.iconst 0, 1) := by decide +kernel
theorem d_M_jumps_57 : decode b_M_jumps 57 = .ok (.iload_n 1, 1) := by decide +kernel
theorem d_M_jumps_58 : decode b_M_jumps 58 = .ok (.iconst 0, 1) := by decide +kernel
theorem d_M_jumps_59 : decode b_M_jumps 59 = .ok (.invokestatic 18, 3) := by decide +kernel
theorem d_M_jumps_62 : decode b_M_jumps 62 = .ok (.ireturn, 1) := by decide +kernel
theorem d_M_jumps_63 : decode b_M_jumps 63 = .ok (.bipush 51, 2) := by decide +kernel
theorem d_M_jumps_65 : decode b_M_jumps 65 = .ok (.iload_n 1, 1) := by decide +kernel
theorem d_M_jumps_66 : decode b_M_jumps 66 = .ok (.iconst 0, 1) := by decide +kernel
theorem d_M_jumps_67 : decode b_M_jumps 67 = .ok (.aload_n 0, 1) := by decide +kernel
theorem d_M_jumps_68 : decode b_M_jumps 68 = .ok (.bipush 12, 2) := by decide +kernel
theorem d_M_jumps_70 : decode b_M_jumps 70 = .ok (.bipush 12, 2) := by decide +kernel
theorem d_M_jumps_72 : decode b_M_jumps 72 = .ok (.invokevirtual 27, 3) := by decide +kernel
theorem d_M_jumps_75 : decode b_M_jumps 75 = .ok (.ifCond .ne 7, 3) := by decide +kernel
theorem d_M_jumps_78 : decode b_M_jumps 78 = .ok (.iconst 0, 1) := by decide +kernel
theorem d_M_jumps_79 : decode b_M_jumps 79 = .ok (.goto 4, 3) := by decide +kernel
theorem d_M_jumps_82 : decode b_M_jumps 82 = .ok (.iload_n 1, 1) := by decide +kernel
theorem d_M_jumps_83 : decode b_M_jumps 83 = .ok (.iload_n 2, 1) := by decide +kernel
theorem d_M_jumps_84 : decode b_M_jumps 84 = .ok (.iconst 0, 1) := by decide +kernel
theorem d_M_jumps_85 : decode b_M_jumps 85 = .ok (.invokestatic 47, 3) := by decide +kernel
theorem d_M_jumps_88 : decode b_M_jumps 88 = .ok (.ireturn, 1) := by decide +kernel
theorem d_M_quadrant2_0 : decode b_M_quadrant2 0 = .ok (.aload_n 0, 1) := by decide +kernel
theorem d_M_quadrant2_1 : decode b_M_quadrant2 1 = .ok (.bipush 11, 2) := by decide +kernel
theorem d_M_quadrant2_3 : decode b_M_quadrant2 3 = .ok (.bipush 7, 2) := by decide +kernel
theorem d_M_quadrant2_5 : decode b_M_quadrant2 5 = .ok (.invokevirtual 27, 3) := by decide +kernel
theorem d_M_quadrant2_8 : decode b_M_quadrant2 8 = .ok (.istore_n 1, 1) := by decide +kernel
theorem d_M_quadrant2_9 : decode b_M_quadrant2 9 = .ok (.aload_n 0, 1) := by decide +kernel
theorem d_M_quadrant2_10 : decode b_M_quadrant2 10 = .ok (.bipush 6, 2) := by decide +kernel
theorem d_M_quadrant2_12 : decode b_M_quadrant2 12 = .ok (.iconst 2, 1) := by decide +kernel
theorem d_M_quadrant2_13 : decode b_M_quadrant2 13 = .ok (.invokevirtual 27, 3) := by decide +kernel
theorem d_M_quadrant2_16 : decode b_M_quadrant2 16 = .ok (.istore_n 2, 1) := by decide +kernel
theorem d_M_quadrant2_17 : decode b_M_quadrant2 17 = .ok (.bipush 64, 2) := by decide +kernel
theorem d_M_quadrant2_19 : decode b_M_quadrant2 19 = .ok (.aload_n 0, 1) := by decide +kernel
theorem d_M_quadrant2_20 : decode b_M_quadrant2 20 = .ok (.iconst 4, 1) := by decide +kernel
theorem d_M_quadrant2_21 : decode b_M_quadrant2 21 = .ok (.iconst 2, 1) := by decide +kernel
theorem d_M_quadrant2_22 : decode b_M_quadrant2 22 = .ok (.invokevirtual 27, 3) := by decide +kernel
theorem d_M_quadrant2_25 : decode b_M_quadrant2 25 = .ok (.imul, 1) := by decide +kernel
theorem d_M_quadrant2_26 : decode b_M_quadrant2 26 = .ok (.bipush 32, 2) := by decide +kernel
theorem d_M_quadrant2_28 : decode b_M_quadrant2 28 = .ok (.aload_n 0, 1) := by decide +kernel
theorem d_M_quadrant2_29 : decode b_M_quadrant2 29 = .ok (.bipush 12, 2) := by decide +kernel
theorem d_M_quadrant2_31 : decode b_M_quadrant2 31 = .ok (.bipush 12, 2) := by decide +kernel
theorem d_M_quadrant2_33 : decode b_M_quadrant2 33 = .ok (.invokevirtual 27, 3) := by decide +kernel
theorem d_M_quadrant2_36 : decode b_M_quadrant2 36 = .ok (.imul, 1) := by decide +kernel
theorem d_M_quadrant2_37 : decode b_M_quadrant2 37 = .ok (.iadd, 1) := by decide +kernel
theorem d_M_quadrant2_38 : decode b_M_quadrant2 38 = .ok (.bipush 8, 2) := by decide +kernel
theorem d_M_quadrant2_40 : decode b_M_quadrant2 40 = .ok (.aload_n 0, 1) := by decide +kernel
theorem d_M_quadrant2_41 : decode b_M_quadrant2 41 = .ok (.bipush 6, 2) := by decide +kernel
theorem d_M_quadrant2_43 : decode b_M_quadrant2 43 = .ok (.iconst 5, 1) := by decide +kernel
theorem d_M_quadrant2_44 : decode b_M_quadrant2 44 = .ok (.invokevirtual 27, 3) := by decide +kernel
theorem d_M_quadrant2_47 : decode b_M_quadrant2 47 = .ok (.imul, 1) := by decide +kernel
theorem d_M_quadrant2_48 : decode b_M_quadrant2 48 = .ok (.iadd, 1) := by decide +kernel
theorem d_M_quadrant2_49 : decode b_M_quadrant2 49 = .ok (.istore_n 3, 1) := by decide +kernel
theorem d_M_quadrant2_50 : decode b_M_quadrant2 50 = .ok (.bipush 64, 2) := by decide +kernel
theorem d_M_quadrant2_52 : decode b_M_quadrant2 52 = .ok (.aload_n 0, 1) := by decide +kernel
theorem d_M_quadrant2_53 : decode b_M_quadrant2 53 = .ok (.bipush 9, 2) := by decide +kernel
theorem d_M_quadrant2_55 : decode b_M_quadrant2 55 = .ok (.bipush 7, 2) := by decide +kernel
theorem d_M_quadrant2_57 : decode b_M_quadrant2 57 = .ok (.invokevirtual 27, 3) := by decide +kernel
theorem d_M_quadrant2_60 : decode b_M_quadrant2 60 = .ok (.imul, 1) := by decide +kernel
theorem d_M_quadrant2_61 : decode b_M_quadrant2 61 = .ok (.bipush 8, 2) := by decide +kernel
theorem d_M_quadrant2_63 : decode b_M_quadrant2 63 = .ok (.aload_n 0, 1) := by decide +kernel
theorem d_M_quadrant2_64 : decode b_M_quadrant2 64 = .ok (.bipush 12, 2) := by decide +kernel
theorem d_M_quadrant2_66 : decode b_M_quadrant2 66 = .ok (.bipush 10, 2) := by decide +kernel
theorem d_M_quadrant2_68 : decode b_M_quadrant2 68 = .ok (.invokevirtual 27, 3) := by decide +kernel
theorem d_M_quadrant2_71 : decode b_M_quadrant2 71 = .ok (.imul, 1) := by decide +kernel
theorem d_M_quadrant2_72 : decode b_M_quadrant2 72 = .ok (.iadd, 1) := by decide +kernel
theorem d_M_quadrant2_73 : decode b_M_quadrant2 73 = .ok (.istore 4, 2) := by decide +kernel
theorem d_M_quadrant2_75 : decode b_M_quadrant2 75 = .ok (.aload_n 0, 1) := by decide +kernel
theorem d_M_quadrant2_76 : decode b_M_quadrant2 76 = .ok (.bipush 15, 2) := by decide +kernel
theorem d_M_quadrant2_78 : decode b_M_quadrant2 78 = .ok (.bipush 13, 2) := by decide +kernel
theorem d_M_quadrant2_80 : decode b_M_quadrant2 80 = .ok (.invokevirtual 27, 3) := by decide +kernel
theorem d_M_quadrant2_83 : decode b_M_quadrant2 83 = .ok (.tableswitch 177 0 6 #[41, 54, 64, 111, 128, 135, 146], 41) := by decide +kernel
theorem d_M_quadrant2_124 : decode b_M_quadrant2 124 = .ok (.bipush 19, 2) := by decide +kernel
theorem d_M_quadrant2_126 : decode b_M_quadrant2 126 = .ok (.iload_n 1, 1) := by decide +kernel
theorem d_M_quadrant2_127 : decode b_M_quadrant2 127 = .ok (.iconst 1, 1) := by decide +kernel
theorem d_M_quadrant2_128 : decode b_M_quadrant2 128 = .ok (.iload_n 1, 1) := by decide +kernel
theorem d_M_quadrant2_129 : decode b_M_quadrant2 129 = .ok (.aload_n 0, 1) := by decide +kernel
theorem d_M_quadrant2_130 : decode b_M_quadrant2 130 = .ok (.invokevirtual 31, 3) := by decide +kernel
theorem d_M_quadrant2_133 : decode b_M_quadrant2 133 = .ok (.invokestatic 18, 3) := by decide +kernel
theorem d_M_quadrant2_136 : decode b_M_quadrant2 136 = .ok (.ireturn, 1) := by decide +kernel
theorem d_M_quadrant2_137 : decode b_M_quadrant2 137 = .ok (.bipush 7, 2) := by decide +kernel
theorem d_M_quadrant2_139 : decode b_M_quadrant2 139 = .ok (.iload_n 1, 1) := by decide +kernel
theorem d_M_quadrant2_140 : decode b_M_quadrant2 140 = .ok (.iconst 3, 1) := by decide +kernel
theorem d_M_quadrant2_141 : decode b_M_quadrant2 141 = .ok (.iconst 2, 1) := by decide +kernel
theorem d_M_quadrant2_142 : decode b_M_quadrant2 142 = .ok (.iload_n 3, 1) := by decide +kernel
theorem d_M_quadrant2_143 : decode b_M_quadrant2 143 = .ok (.invokestatic 18, 3) := by decide +kernel
theorem d_M_quadrant2_146 : decode b_M_quadrant2 146 = .ok (.ireturn, 1) := by decide +kernel
