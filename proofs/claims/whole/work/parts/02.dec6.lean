theorem d_M_quadrant2_147 : decode b_M_quadrant2 147 = .ok (.iload_n 1, 1) := by decide +kernel
theorem d_M_quadrant2_148 : decode b_M_quadrant2 148 = .ok (.ifCond .ne 7, 3) := by decide +kernel
theorem d_M_quadrant2_151 : decode b_M_quadrant2 151 = .ok (.iconst 0, 1) := by decide +kernel
theorem d_M_quadrant2_152 : decode b_M_quadrant2 152 = .ok (.goto 41, 3) := by decide +kernel
theorem d_M_quadrant2_155 : decode b_M_quadrant2 155 = .ok (.iconst 3, 1) := by decide +kernel
theorem d_M_quadrant2_156 : decode b_M_quadrant2 156 = .ok (.iload_n 1, 1) := by decide +kernel
theorem d_M_quadrant2_157 : decode b_M_quadrant2 157 = .ok (.iconst 2, 1) := by decide +kernel
theorem d_M_quadrant2_158 : decode b_M_quadrant2 158 = .ok (.iconst 2, 1) := by decide +kernel
theorem d_M_quadrant2_159 : decode b_M_quadrant2 159 = .ok (.bipush 64, 2) := by decide +kernel
theorem d_M_quadrant2_161 : decode b_M_quadrant2 161 = .ok (.aload_n 0, 1) := by decide +kernel
theorem d_M_quadrant2_162 : decode b_M_quadrant2 162 = .ok (.iconst 3, 1) := by decide +kernel
theorem d_M_quadrant2_163 : decode b_M_quadrant2 163 = .ok (.iconst 2, 1) := by decide +kernel
theorem d_M_quadrant2_164 : decode b_M_quadrant2 164 = .ok (.invokevirtual 27, 3) := by decide +kernel
theorem d_M_quadrant2_167 : decode b_M_quadrant2 167 = .ok (.imul, 1) := by decide +kernel
theorem d_M_quadrant2_168 : decode b_M_quadrant2 168 = .ok (.bipush 32, 2) := by decide +kernel
theorem d_M_quadrant2_170 : decode b_M_quadrant2 170 = .ok (.aload_n 0, 1) := by decide +kernel
theorem d_M_quadrant2_171 : decode b_M_quadrant2 171 = .ok (.bipush 12, 2) := by decide +kernel
theorem d_M_quadrant2_173 : decode b_M_quadrant2 173 = .ok (.bipush 12, 2) := by decide +kernel
theorem d_M_quadrant2_175 : decode b_M_quadrant2 175 = .ok (.invokevirtual 27, 3) := by decide +kernel
theorem d_M_quadrant2_178 : decode b_M_quadrant2 178 = .ok (.imul, 1) := by decide +kernel
theorem d_M_quadrant2_179 : decode b_M_quadrant2 179 = .ok (.iadd, 1) := by decide +kernel
theorem d_M_quadrant2_180 : decode b_M_quadrant2 180 = .ok (.iconst 4, 1) := by decide +kernel
theorem d_M_quadrant2_181 : decode b_M_quadrant2 181 = .ok (.aload_n 0, 1) := by decide +kernel
theorem d_M_quadrant2_182 : decode b_M_quadrant2 182 = .ok (.bipush 6, 2) := by decide +kernel
theorem d_M_quadrant2_184 : decode b_M_quadrant2 184 = .ok (.iconst 4, 1) := by decide +kernel
theorem d_M_quadrant2_185 : decode b_M_quadrant2 185 = .ok (.invokevirtual 27, 3) := by decide +kernel
theorem d_M_quadrant2_188 : decode b_M_quadrant2 188 = .ok (.imul, 1) := by decide +kernel
theorem d_M_quadrant2_189 : decode b_M_quadrant2 189 = .ok (.iadd, 1) := by decide +kernel
theorem d_M_quadrant2_190 : decode b_M_quadrant2 190 = .ok (.invokestatic 18, 3) := by decide +kernel
theorem d_M_quadrant2_193 : decode b_M_quadrant2 193 = .ok (.ireturn, 1) := by decide +kernel
theorem d_M_quadrant2_194 : decode b_M_quadrant2 194 = .ok (.iload_n 1, 1) := by decide +kernel
theorem d_M_quadrant2_195 : decode b_M_quadrant2 195 = .ok (.ifCond .ne 7, 3) := by decide +kernel
theorem d_M_quadrant2_198 : decode b_M_quadrant2 198 = .ok (.iconst 0, 1) := by decide +kernel
theorem d_M_quadrant2_199 : decode b_M_quadrant2 199 = .ok (.goto 11, 3) := by decide +kernel
theorem d_M_quadrant2_202 : decode b_M_quadrant2 202 = .ok (.iconst 3, 1) := by decide +kernel
theorem d_M_quadrant2_203 : decode b_M_quadrant2 203 = .ok (.iload_n 1, 1) := by decide +kernel
theorem d_M_quadrant2_204 : decode b_M_quadrant2 204 = .ok (.iconst 3, 1) := by decide +kernel
theorem d_M_quadrant2_205 : decode b_M_quadrant2 205 = .ok (.iconst 2, 1) := by decide +kernel
theorem d_M_quadrant2_206 : decode b_M_quadrant2 206 = .ok (.iload_n 3, 1) := by decide +kernel
theorem d_M_quadrant2_207 : decode b_M_quadrant2 207 = .ok (.invokestatic 18, 3) := by decide +kernel
theorem d_M_quadrant2_210 : decode b_M_quadrant2 210 = .ok (.ireturn, 1) := by decide +kernel
theorem d_M_quadrant2_211 : decode b_M_quadrant2 211 = .ok (.aload_n 0, 1) := by decide +kernel
theorem d_M_quadrant2_212 : decode b_M_quadrant2 212 = .ok (.iload_n 1, 1) := by decide +kernel
theorem d_M_quadrant2_213 : decode b_M_quadrant2 213 = .ok (.iload_n 2, 1) := by decide +kernel
theorem d_M_quadrant2_214 : decode b_M_quadrant2 214 = .ok (.invokevirtual 64, 3) := by decide +kernel
theorem d_M_quadrant2_217 : decode b_M_quadrant2 217 = .ok (.ireturn, 1) := by decide +kernel
theorem d_M_quadrant2_218 : decode b_M_quadrant2 218 = .ok (.bipush 39, 2) := by decide +kernel
theorem d_M_quadrant2_220 : decode b_M_quadrant2 220 = .ok (.iconst 3, 1) := by decide +kernel
theorem d_M_quadrant2_221 : decode b_M_quadrant2 221 = .ok (.iconst 2, 1) := by decide +kernel
theorem d_M_quadrant2_222 : decode b_M_quadrant2 222 = .ok (.iload_n 2, 1) := by decide +kernel
theorem d_M_quadrant2_223 : decode b_M_quadrant2 223 = .ok (.iload 4, 2) := by decide +kernel
theorem d_M_quadrant2_225 : decode b_M_quadrant2 225 = .ok (.invokestatic 41, 3) := by decide +kernel
theorem d_M_quadrant2_228 : decode b_M_quadrant2 228 = .ok (.ireturn, 1) := by decide +kernel
theorem d_M_quadrant2_229 : decode b_M_quadrant2 229 = .ok (.bipush 35, 2) := by decide +kernel
theorem d_M_quadrant2_231 : decode b_M_quadrant2 231 = .ok (.iconst 2, 1) := by decide +kernel
theorem d_M_quadrant2_232 : decode b_M_quadrant2 232 = .ok (.iconst 2, 1) := by decide +kernel
theorem d_M_quadrant2_233 : decode b_M_quadrant2 233 = .ok (.iload_n 2, 1) := by decide +kernel
theorem d_M_quadrant2_234 : decode b_M_quadrant2 234 = .ok (.bipush 64, 2) := by decide +kernel
theorem d_M_quadrant2_236 : decode b_M_quadrant2 236 = .ok (.aload_n 0, 1) := by decide +kernel
theorem d_M_quadrant2_237 : decode b_M_quadrant2 237 = .ok (.bipush 8, 2) := by decide +kernel
theorem d_M_quadrant2_239 : decode b_M_quadrant2 239 = .ok (.bipush 7, 2) := by decide +kernel
theorem d_M_quadrant2_241 : decode b_M_quadrant2 241 = .ok (.invokevirtual 27, 3) := by decide +kernel
theorem d_M_quadrant2_244 : decode b_M_quadrant2 244 = .ok (.imul, 1) := by decide +kernel
theorem d_M_quadrant2_245 : decode b_M_quadrant2 245 = .ok (.iconst 4, 1) := by decide +kernel
theorem d_M_quadrant2_246 : decode b_M_quadrant2 246 = .ok (.aload_n 0, 1) := by decide +kernel
theorem d_M_quadrant2_247 : decode b_M_quadrant2 247 = .ok (.bipush 12, 2) := by decide +kernel
theorem d_M_quadrant2_249 : decode b_M_quadrant2 249 = .ok (.bipush 9, 2) := by decide +kernel
theorem d_M_quadrant2_251 : decode b_M_quadrant2 251 = .ok (.invokevirtual 27, 3) := by decide +kernel
theorem d_M_quadrant2_254 : decode b_M_quadrant2 254 = .ok (.imul, 1) := by decide +kernel
theorem d_M_quadrant2_255 : decode b_M_quadrant2 255 = .ok (.iadd, 1) := by decide +kernel
theorem d_M_quadrant2_256 : decode b_M_quadrant2 256 = .ok (.invokestatic 41, 3) := by decide +kernel
theorem d_M_quadrant2_259 : decode b_M_quadrant2 259 = .ok (.ireturn, 1) := by decide +kernel
theorem d_M_quadrant2_260 : decode b_M_quadrant2 260 = .ok (.bipush 35, 2) := by decide +kernel
theorem d_M_quadrant2_262 : decode b_M_quadrant2 262 = .ok (.iconst 3, 1) := by decide +kernel
theorem d_M_quadrant2_263 : decode b_M_quadrant2 263 = .ok (.iconst 2, 1) := by decide +kernel
theorem d_M_quadrant2_264 : decode b_M_quadrant2 264 = .ok (.iload_n 2, 1) := by decide +kernel
theorem d_M_quadrant2_265 : decode b_M_quadrant2 265 = .ok (.iload 4, 2) := by decide +kernel
theorem d_M_quadrant2_267 : decode b_M_quadrant2 267 = .ok (.invokestatic 41, 3) := by decide +kernel
theorem d_M_quadrant2_270 : decode b_M_quadrant2 270 = .ok (.ireturn, 1) := by decide +kernel
theorem d_M_wordOf_0 : decode b_M_wordOf 0 = .ok (.aload_n 0, 1) := by decide +kernel
theorem d_M_wordOf_1 : decode b_M_wordOf 1 = .ok (.iload_n 1, 1) := by decide +kernel
theorem d_M_wordOf_2 : decode b_M_wordOf 2 = .ok (.putfield 13, 3) := by decide +kernel
theorem d_M_wordOf_5 : decode b_M_wordOf 5 = .ok (.iload_n 1, 1) := by decide +kernel
theorem d_M_wordOf_6 : decode b_M_wordOf 6 = .ok (.iconst 3, 1) := by decide +kernel
theorem d_M_wordOf_7 : decode b_M_wordOf 7 = .ok (.iand, 1) := by decide +kernel
theorem d_M_wordOf_8 : decode b_M_wordOf 8 = .ok (.tableswitch 43 0 2 #[28, 33, 38], 28) := by decide +kernel
theorem d_M_wordOf_36 : decode b_M_wordOf 36 = .ok (.aload_n 0, 1) := by decide +kernel
theorem d_M_wordOf_37 : decode b_M_wordOf 37 = .ok (.invokevirtual 67, 3) := by decide +kernel
theorem d_M_wordOf_40 : decode b_M_wordOf 40 = .ok (.ireturn, 1) := by decide +kernel
theorem d_M_wordOf_41 : decode b_M_wordOf 41 = .ok (.aload_n 0, 1) := by decide +kernel
theorem d_M_wordOf_42 : decode b_M_wordOf 42 = .ok (.invokevirtual 70, 3) := by decide +kernel
theorem d_M_wordOf_45 : decode b_M_wordOf 45 = .ok (.ireturn, 1) := by decide +kernel
theorem d_M_wordOf_46 : decode b_M_wordOf 46 = .ok (.aload_n 0, 1) := by decide +kernel
theorem d_M_wordOf_47 : decode b_M_wordOf 47 = .ok (.invokevirtual 73, 3) := by decide +kernel
theorem d_M_wordOf_50 : decode b_M_wordOf 50 = .ok (.ireturn, 1) := by decide +kernel
theorem d_M_wordOf_51 : decode b_M_wordOf 51 = .ok (.iconst 0, 1) := by decide +kernel
theorem d_M_wordOf_52 : decode b_M_wordOf 52 = .ok (.ireturn, 1) := by decide +kernel
theorem d_M_expand_0 : decode b_M_expand 0 = .ok (.aload_n 0, 1) := by decide +kernel
theorem d_M_expand_1 : decode b_M_expand 1 = .ok (.iload_n 1, 1) := by decide +kernel
theorem d_M_expand_2 : decode b_M_expand 2 = .ok (.ifCond .lt 9, 3) := by decide +kernel
theorem d_M_expand_5 : decode b_M_expand 5 = .ok (.iload_n 1, 1) := by decide +kernel
theorem d_M_expand_6 : decode b_M_expand 6 = .ok (.ldc 76, 2) := by decide +kernel
theorem d_M_expand_8 : decode b_M_expand 8 = .ok (.if_icmp .le 7, 3) := by decide +kernel
theorem d_M_expand_11 : decode b_M_expand 11 = .ok (.iconst 1, 1) := by decide +kernel
theorem d_M_expand_12 : decode b_M_expand 12 = .ok (.goto 4, 3) := by decide +kernel
theorem d_M_expand_15 : decode b_M_expand 15 = .ok (.iconst 0, 1) := by decide +kernel
theorem d_M_expand_16 : decode b_M_expand 16 = .ok (.putfield 7, 3) := by decide +kernel
theorem d_M_expand_19 : decode b_M_expand 19 = .ok (.aload_n 0, 1) := by decide +kernel
theorem d_M_expand_20 : decode b_M_expand 20 = .ok (.getfield 7, 3) := by decide +kernel
theorem d_M_expand_23 : decode b_M_expand 23 = .ok (.ifCond .le 7, 3) := by decide +kernel
theorem d_M_expand_26 : decode b_M_expand 26 = .ok (.iconst 0, 1) := by decide +kernel
theorem d_M_expand_27 : decode b_M_expand 27 = .ok (.goto 8, 3) := by decide +kernel
theorem d_M_expand_30 : decode b_M_expand 30 = .ok (.aload_n 0, 1) := by decide +kernel
theorem d_M_expand_31 : decode b_M_expand 31 = .ok (.iload_n 1, 1) := by decide +kernel
theorem d_M_expand_32 : decode b_M_expand 32 = .ok (.invokevirtual 77, 3) := by decide +kernel
theorem d_M_expand_35 : decode b_M_expand 35 = .ok (.ireturn, 1) := by decide +kernel
theorem d_M_groups_0 : decode b_M_groups 0 = .ok (.iload_n 0, 1) := by decide +kernel
theorem d_M_groups_1 : decode b_M_groups 1 = .ok (.lookupswitch 155 #[(3, 121), (7, 118), (19, 115), (27, 130), (35, 127), (39, 124), (51, 138), (55, 134), (59, 141), (99, 149), (103, 152), (111, 145), (115, 152)], 115) := by decide +kernel
theorem d_M_groups_116 : decode b_M_groups 116 = .ok (.ldc 80, 2) := by decide +kernel
theorem d_M_groups_118 : decode b_M_groups 118 = .ok (.ireturn, 1) := by decide +kernel
theorem d_M_groups_119 : decode b_M_groups 119 = .ok (.ldc 81, 2) := by decide +kernel
theorem d_M_groups_121 : decode b_M_groups 121 = .ok (.ireturn, 1) := by decide +kernel
theorem d_M_groups_122 : decode b_M_groups 122 = .ok (.ldc 82, 2) := by decide +kernel
theorem d_M_groups_124 : decode b_M_groups 124 = .ok (.ireturn, 1) := by decide +kernel
theorem d_M_groups_125 : decode b_M_groups 125 = .ok (.ldc 83, 2) := by decide +kernel
theorem d_M_groups_127 : decode b_M_groups 127 = .ok (.ireturn, 1) := by decide +kernel
theorem d_M_groups_128 : decode b_M_groups 128 = .ok (.ldc 84, 2) := by decide +kernel
theorem d_M_groups_130 : decode b_M_groups 130 = .ok (.ireturn, 1) := by decide +kernel
theorem d_M_groups_131 : decode b_M_groups 131 = .ok (.sipush 512, 3) := by decide +kernel
theorem d_M_groups_134 : decode b_M_groups 134 = .ok (.ireturn, 1) := by decide +kernel
theorem d_M_groups_135 : decode b_M_groups 135 = .ok (.sipush 2048, 3) := by decide +kernel
theorem d_M_groups_138 : decode b_M_groups 138 = .ok (.ireturn, 1) := by decide +kernel
theorem d_M_groups_139 : decode b_M_groups 139 = .ok (.ldc 85, 2) := by decide +kernel
theorem d_M_groups_141 : decode b_M_groups 141 = .ok (.ireturn, 1) := by decide +kernel
theorem d_M_groups_142 : decode b_M_groups 142 = .ok (.sipush 4096, 3) := by decide +kernel
theorem d_M_groups_145 : decode b_M_groups 145 = .ok (.ireturn, 1) := by decide +kernel
theorem d_M_groups_146 : decode b_M_groups 146 = .ok (.sipush 8192, 3) := by decide +kernel
theorem d_M_groups_149 : decode b_M_groups 149 = .ok (.ireturn, 1) := by decide +kernel
theorem d_M_groups_150 : decode b_M_groups 150 = .ok (.ldc 86, 2) := by decide +kernel
theorem d_M_groups_152 : decode b_M_groups 152 = .ok (.ireturn, 1) := by decide +kernel
theorem d_M_groups_153 : decode b_M_groups 153 = .ok (.ldc 17, 2) := by decide +kernel
theorem d_M_groups_155 : decode b_M_groups 155 = .ok (.ireturn, 1) := by decide +kernel
theorem d_M_groups_156 : decode b_M_groups 156 = .ok (.iconst 0, 1) := by decide +kernel
theorem d_M_groups_157 : decode b_M_groups 157 = .ok (.ireturn, 1) := by decide +kernel
theorem d_M_couldBe_0 : decode b_M_couldBe 0 = .ok (.iload_n 2, 1) := by decide +kernel
theorem d_M_couldBe_1 : decode b_M_couldBe 1 = .ok (.bipush 7, 2) := by decide +kernel
theorem d_M_couldBe_3 : decode b_M_couldBe 3 = .ok (.ishr, 1) := by decide +kernel
theorem d_M_couldBe_4 : decode b_M_couldBe 4 = .ok (.bipush 31, 2) := by decide +kernel
theorem d_M_couldBe_6 : decode b_M_couldBe 6 = .ok (.iand, 1) := by decide +kernel
theorem d_M_couldBe_7 : decode b_M_couldBe 7 = .ok (.istore_n 3, 1) := by decide +kernel
theorem d_M_couldBe_8 : decode b_M_couldBe 8 = .ok (.iload_n 2, 1) := by decide +kernel
theorem d_M_couldBe_9 : decode b_M_couldBe 9 = .ok (.bipush 15, 2) := by decide +kernel
theorem d_M_couldBe_11 : decode b_M_couldBe 11 = .ok (.ishr, 1) := by decide +kernel
theorem d_M_couldBe_12 : decode b_M_couldBe 12 = .ok (.bipush 31, 2) := by decide +kernel
theorem d_M_couldBe_14 : decode b_M_couldBe 14 = .ok (.iand, 1) := by decide +kernel
theorem d_M_couldBe_15 : decode b_M_couldBe 15 = .ok (.istore 4, 2) := by decide +kernel
theorem d_M_couldBe_17 : decode b_M_couldBe 17 = .ok (.iload_n 2, 1) := by decide +kernel
theorem d_M_couldBe_18 : decode b_M_couldBe 18 = .ok (.bipush 20, 2) := by decide +kernel
theorem d_M_couldBe_20 : decode b_M_couldBe 20 = .ok (.ishr, 1) := by decide +kernel
theorem d_M_couldBe_21 : decode b_M_couldBe 21 = .ok (.bipush 31, 2) := by decide +kernel
theorem d_M_couldBe_23 : decode b_M_couldBe 23 = .ok (.iand, 1) := by decide +kernel
theorem d_M_couldBe_24 : decode b_M_couldBe 24 = .ok (.istore 5, 2) := by decide +kernel
theorem d_M_couldBe_26 : decode b_M_couldBe 26 = .ok (.iload_n 0, 1) := by decide +kernel
theorem d_M_couldBe_27 : decode b_M_couldBe 27 = .ok (.ifCond .ne 20, 3) := by decide +kernel
theorem d_M_couldBe_30 : decode b_M_couldBe 30 = .ok (.bipush 8, 2) := by decide +kernel
theorem d_M_couldBe_32 : decode b_M_couldBe 32 = .ok (.iload_n 1, 1) := by decide +kernel
theorem d_M_couldBe_33 : decode b_M_couldBe 33 = .ok (.bipush 7, 2) := by decide +kernel
theorem d_M_couldBe_35 : decode b_M_couldBe 35 = .ok (.iand, 1) := by decide +kernel
theorem d_M_couldBe_36 : decode b_M_couldBe 36 = .ok (.iadd, 1) := by decide +kernel
theorem d_M_couldBe_37 : decode b_M_couldBe 37 = .ok (.iload_n 3, 1) := by decide +kernel
theorem d_M_couldBe_38 : decode b_M_couldBe 38 = .ok (.if_icmp .ne 7, 3) := by decide +kernel
theorem d_M_couldBe_41 : decode b_M_couldBe 41 = .ok (.iconst 1, 1) := by decide +kernel
theorem d_M_couldBe_42 : decode b_M_couldBe 42 = .ok (.goto 4, 3) := by decide +kernel
theorem d_M_couldBe_45 : decode b_M_couldBe 45 = .ok (.iconst 0, 1) := by decide +kernel
theorem d_M_couldBe_46 : decode b_M_couldBe 46 = .ok (.ireturn, 1) := by decide +kernel
theorem d_M_couldBe_47 : decode b_M_couldBe 47 = .ok (.iload_n 0, 1) := by decide +kernel
theorem d_M_couldBe_48 : decode b_M_couldBe 48 = .ok (.bipush 8, 2) := by decide +kernel
theorem d_M_couldBe_50 : decode b_M_couldBe 50 = .ok (.if_icmp .lt 21, 3) := by decide +kernel
theorem d_M_couldBe_53 : decode b_M_couldBe 53 = .ok (.iload_n 0, 1) := by decide +kernel
theorem d_M_couldBe_54 : decode b_M_couldBe 54 = .ok (.bipush 12, 2) := by decide +kernel
theorem d_M_couldBe_56 : decode b_M_couldBe 56 = .ok (.if_icmp .eq 15, 3) := by decide +kernel
theorem d_M_couldBe_59 : decode b_M_couldBe 59 = .ok (.iload_n 0, 1) := by decide +kernel
theorem d_M_couldBe_60 : decode b_M_couldBe 60 = .ok (.bipush 14, 2) := by decide +kernel
theorem d_M_couldBe_62 : decode b_M_couldBe 62 = .ok (.if_icmp .eq 9, 3) := by decide +kernel
theorem d_M_couldBe_65 : decode b_M_couldBe 65 = .ok (.iload_n 0, 1) := by decide +kernel
theorem d_M_couldBe_66 : decode b_M_couldBe 66 = .ok (.bipush 15, 2) := by decide +kernel
theorem d_M_couldBe_68 : decode b_M_couldBe 68 = .ok (.if_icmp .ne 23, 3) := by decide +kernel
theorem d_M_couldBe_71 : decode b_M_couldBe 71 = .ok (.bipush 8, 2) := by decide +kernel
theorem d_M_couldBe_73 : decode b_M_couldBe 73 = .ok (.iload_n 1, 1) := by decide +kernel
theorem d_M_couldBe_74 : decode b_M_couldBe 74 = .ok (.iconst 5, 1) := by decide +kernel
theorem d_M_couldBe_75 : decode b_M_couldBe 75 = .ok (.ishr, 1) := by decide +kernel
theorem d_M_couldBe_76 : decode b_M_couldBe 76 = .ok (.bipush 7, 2) := by decide +kernel
theorem d_M_couldBe_78 : decode b_M_couldBe 78 = .ok (.iand, 1) := by decide +kernel
theorem d_M_couldBe_79 : decode b_M_couldBe 79 = .ok (.iadd, 1) := by decide +kernel
theorem d_M_couldBe_80 : decode b_M_couldBe 80 = .ok (.iload 4, 2) := by decide +kernel
theorem d_M_couldBe_82 : decode b_M_couldBe 82 = .ok (.if_icmp .ne 7, 3) := by decide +kernel
theorem d_M_couldBe_85 : decode b_M_couldBe 85 = .ok (.iconst 1, 1) := by decide +kernel
theorem d_M_couldBe_86 : decode b_M_couldBe 86 = .ok (.goto 4, 3) := by decide +kernel
theorem d_M_couldBe_89 : decode b_M_couldBe 89 = .ok (.iconst 0, 1) := by decide +kernel
theorem d_M_couldBe_90 : decode b_M_couldBe 90 = .ok (.ireturn, 1) := by decide +kernel
theorem d_M_couldBe_91 : decode b_M_couldBe 91 = .ok (.iload_n 0, 1) := by decide +kernel
theorem d_M_couldBe_92 : decode b_M_couldBe 92 = .ok (.bipush 13, 2) := by decide +kernel
theorem d_M_couldBe_94 : decode b_M_couldBe 94 = .ok (.if_icmp .ne 5, 3) := by decide +kernel
theorem d_M_couldBe_97 : decode b_M_couldBe 97 = .ok (.iconst 1, 1) := by decide +kernel
theorem d_M_couldBe_98 : decode b_M_couldBe 98 = .ok (.ireturn, 1) := by decide +kernel
theorem d_M_couldBe_99 : decode b_M_couldBe 99 = .ok (.iload_n 0, 1) := by decide +kernel
theorem d_M_couldBe_100 : decode b_M_couldBe 100 = .ok (.bipush 20, 2) := by decide +kernel
theorem d_M_couldBe_102 : decode b_M_couldBe 102 = .ok (.if_icmp .ge 21, 3) := by decide +kernel
theorem d_M_couldBe_105 : decode b_M_couldBe 105 = .ok (.iload_n 1, 1) := by decide +kernel
theorem d_M_couldBe_106 : decode b_M_couldBe 106 = .ok (.iconst 5, 1) := by decide +kernel
theorem d_M_couldBe_107 : decode b_M_couldBe 107 = .ok (.ishr, 1) := by decide +kernel
theorem d_M_couldBe_108 : decode b_M_couldBe 108 = .ok (.bipush 31, 2) := by decide +kernel
theorem d_M_couldBe_110 : decode b_M_couldBe 110 = .ok (.iand, 1) := by decide +kernel
theorem d_M_couldBe_111 : decode b_M_couldBe 111 = .ok (.iload_n 3, 1) := by decide +kernel
theorem d_M_couldBe_112 : decode b_M_couldBe 112 = .ok (.if_icmp .ne 7, 3) := by decide +kernel
theorem d_M_couldBe_115 : decode b_M_couldBe 115 = .ok (.iconst 1, 1) := by decide +kernel
theorem d_M_couldBe_116 : decode b_M_couldBe 116 = .ok (.goto 51, 3) := by decide +kernel
theorem d_M_couldBe_119 : decode b_M_couldBe 119 = .ok (.iconst 0, 1) := by decide +kernel
theorem d_M_couldBe_120 : decode b_M_couldBe 120 = .ok (.goto 47, 3) := by decide +kernel
theorem d_M_couldBe_123 : decode b_M_couldBe 123 = .ok (.iload_n 0, 1) := by decide +kernel
theorem d_M_couldBe_124 : decode b_M_couldBe 124 = .ok (.bipush 20, 2) := by decide +kernel
theorem d_M_couldBe_126 : decode b_M_couldBe 126 = .ok (.if_icmp .ne 27, 3) := by decide +kernel
theorem d_M_couldBe_129 : decode b_M_couldBe 129 = .ok (.iload_n 1, 1) := by decide +kernel
theorem d_M_couldBe_130 : decode b_M_couldBe 130 = .ok (.bipush 31, 2) := by decide +kernel
theorem d_M_couldBe_132 : decode b_M_couldBe 132 = .ok (.iand, 1) := by decide +kernel
theorem d_M_couldBe_133 : decode b_M_couldBe 133 = .ok (.ifCond .eq 12, 3) := by decide +kernel
theorem d_M_couldBe_136 : decode b_M_couldBe 136 = .ok (.iload_n 1, 1) := by decide +kernel
theorem d_M_couldBe_137 : decode b_M_couldBe 137 = .ok (.bipush 31, 2) := by decide +kernel
theorem d_M_couldBe_139 : decode b_M_couldBe 139 = .ok (.iand, 1) := by decide +kernel
theorem d_M_couldBe_140 : decode b_M_couldBe 140 = .ok (.iload 5, 2) := by decide +kernel
theorem d_M_couldBe_142 : decode b_M_couldBe 142 = .ok (.if_icmp .ne 7, 3) := by decide +kernel
theorem d_M_couldBe_145 : decode b_M_couldBe 145 = .ok (.iconst 1, 1) := by decide +kernel
theorem d_M_couldBe_146 : decode b_M_couldBe 146 = .ok (.goto 21, 3) := by decide +kernel
theorem d_M_couldBe_149 : decode b_M_couldBe 149 = .ok (.iconst 0, 1) := by decide +kernel
theorem d_M_couldBe_150 : decode b_M_couldBe 150 = .ok (.goto 17, 3) := by decide +kernel
theorem d_M_couldBe_153 : decode b_M_couldBe 153 = .ok (.iload_n 1, 1) := by decide +kernel
theorem d_M_couldBe_154 : decode b_M_couldBe 154 = .ok (.bipush 31, 2) := by decide +kernel
theorem d_M_couldBe_156 : decode b_M_couldBe 156 = .ok (.iand, 1) := by decide +kernel
theorem d_M_couldBe_157 : decode b_M_couldBe 157 = .ok (.iload 5, 2) := by decide +kernel
theorem d_M_couldBe_159 : decode b_M_couldBe 159 = .ok (.if_icmp .ne 7, 3) := by decide +kernel
theorem d_M_couldBe_162 : decode b_M_couldBe 162 = .ok (.iconst 1, 1) := by decide +kernel
theorem d_M_couldBe_163 : decode b_M_couldBe 163 = .ok (.goto 4, 3) := by decide +kernel
theorem d_M_couldBe_166 : decode b_M_couldBe 166 = .ok (.iconst 0, 1) := by decide +kernel
theorem d_M_couldBe_167 : decode b_M_couldBe 167 = .ok (.ireturn, 1) := by decide +kernel
theorem d_M_triedAll_0 : decode b_M_triedAll 0 = .ok (.lconst 0, 1) := by decide +kernel
theorem d_M_triedAll_1 : decode b_M_triedAll 1 = .ok (.lstore_n 3, 1) := by decide +kernel
theorem d_M_triedAll_2 : decode b_M_triedAll 2 = .ok (.iconst 0, 1) := by decide +kernel
theorem d_M_triedAll_3 : decode b_M_triedAll 3 = .ok (.istore 5, 2) := by decide +kernel
theorem d_M_triedAll_5 : decode b_M_triedAll 5 = .ok (.sipush 2047, 3) := by decide +kernel
theorem d_M_triedAll_8 : decode b_M_triedAll 8 = .ok (.istore 6, 2) := by decide +kernel
theorem d_M_triedAll_10 : decode b_M_triedAll 10 = .ok (.iload 6, 2) := by decide +kernel
theorem d_M_triedAll_12 : decode b_M_triedAll 12 = .ok (.ifCond .lt 56, 3) := by decide +kernel
theorem d_M_triedAll_15 : decode b_M_triedAll 15 = .ok (.iload_n 1, 1) := by decide +kernel
theorem d_M_triedAll_16 : decode b_M_triedAll 16 = .ok (.bipush 7, 2) := by decide +kernel
theorem d_M_triedAll_18 : decode b_M_triedAll 18 = .ok (.iand, 1) := by decide +kernel
theorem d_M_triedAll_19 : decode b_M_triedAll 19 = .ok (.bipush 13, 2) := by decide +kernel
theorem d_M_triedAll_21 : decode b_M_triedAll 21 = .ok (.ishl, 1) := by decide +kernel
theorem d_M_triedAll_22 : decode b_M_triedAll 22 = .ok (.iload 6, 2) := by decide +kernel
theorem d_M_triedAll_24 : decode b_M_triedAll 24 = .ok (.iconst 2, 1) := by decide +kernel
theorem d_M_triedAll_25 : decode b_M_triedAll 25 = .ok (.ishl, 1) := by decide +kernel
theorem d_M_triedAll_26 : decode b_M_triedAll 26 = .ok (.ior, 1) := by decide +kernel
theorem d_M_triedAll_27 : decode b_M_triedAll 27 = .ok (.iload_n 1, 1) := by decide +kernel
theorem d_M_triedAll_28 : decode b_M_triedAll 28 = .ok (.iconst 3, 1) := by decide +kernel
theorem d_M_triedAll_29 : decode b_M_triedAll 29 = .ok (.ishr, 1) := by decide +kernel
theorem d_M_triedAll_30 : decode b_M_triedAll 30 = .ok (.ior, 1) := by decide +kernel
theorem d_M_triedAll_31 : decode b_M_triedAll 31 = .ok (.istore 7, 2) := by decide +kernel
theorem d_M_triedAll_33 : decode b_M_triedAll 33 = .ok (.iload_n 1, 1) := by decide +kernel
theorem d_M_triedAll_34 : decode b_M_triedAll 34 = .ok (.iload 6, 2) := by decide +kernel
theorem d_M_triedAll_36 : decode b_M_triedAll 36 = .ok (.iload_n 2, 1) := by decide +kernel
theorem d_M_triedAll_37 : decode b_M_triedAll 37 = .ok (.invokestatic 87, 3) := by decide +kernel
theorem d_M_triedAll_40 : decode b_M_triedAll 40 = .ok (.ifCond .eq 22, 3) := by decide +kernel
theorem d_M_triedAll_43 : decode b_M_triedAll 43 = .ok (.aload_n 0, 1) := by decide +kernel
theorem d_M_triedAll_44 : decode b_M_triedAll 44 = .ok (.iload 7, 2) := by decide +kernel
theorem d_M_triedAll_46 : decode b_M_triedAll 46 = .ok (.invokevirtual 77, 3) := by decide +kernel
theorem d_M_triedAll_49 : decode b_M_triedAll 49 = .ok (.iload_n 2, 1) := by decide +kernel
theorem d_M_triedAll_50 : decode b_M_triedAll 50 = .ok (.if_icmp .ne 12, 3) := by decide +kernel
theorem d_M_triedAll_53 : decode b_M_triedAll 53 = .ok (.iinc 5 1, 3) := by decide +kernel
theorem d_M_triedAll_56 : decode b_M_triedAll 56 = .ok (.iload 7, 2) := by decide +kernel
theorem d_M_triedAll_58 : decode b_M_triedAll 58 = .ok (.i2l, 1) := by decide +kernel
theorem d_M_triedAll_59 : decode b_M_triedAll 59 = .ok (.lconst 1, 1) := by decide +kernel
theorem d_M_triedAll_60 : decode b_M_triedAll 60 = .ok (.ladd, 1) := by decide +kernel
theorem d_M_triedAll_61 : decode b_M_triedAll 61 = .ok (.lstore_n 3, 1) := by decide +kernel
theorem d_M_triedAll_62 : decode b_M_triedAll 62 = .ok (.iinc 6 (-1), 3) := by decide +kernel
theorem d_M_triedAll_65 : decode b_M_triedAll 65 = .ok (.goto (-55), 3) := by decide +kernel
theorem d_M_triedAll_68 : decode b_M_triedAll 68 = .ok (.iload 5, 2) := by decide +kernel
theorem d_M_triedAll_70 : decode b_M_triedAll 70 = .ok (.i2l, 1) := by decide +kernel
theorem d_M_triedAll_71 : decode b_M_triedAll 71 = .ok (.ldc2_w 91, 3) := by decide +kernel
theorem d_M_triedAll_74 : decode b_M_triedAll 74 = .ok (.lload_n 3, 1) := by decide +kernel
theorem d_M_triedAll_75 : decode b_M_triedAll 75 = .ok (.lmul, 1) := by decide +kernel
theorem d_M_triedAll_76 : decode b_M_triedAll 76 = .ok (.ladd, 1) := by decide +kernel
theorem d_M_triedAll_77 : decode b_M_triedAll 77 = .ok (.lreturn, 1) := by decide +kernel
theorem d_M_search_0 : decode b_M_search 0 = .ok (.iconst 0, 1) := by decide +kernel
theorem d_M_search_1 : decode b_M_search 1 = .ok (.istore_n 3, 1) := by decide +kernel
theorem d_M_search_2 : decode b_M_search 2 = .ok (.iconst (-1), 1) := by decide +kernel
theorem d_M_search_3 : decode b_M_search 3 = .ok (.istore 4, 2) := by decide +kernel
theorem d_M_search_5 : decode b_M_search 5 = .ok (.iconst 0, 1) := by decide +kernel
theorem d_M_search_6 : decode b_M_search 6 = .ok (.istore 5, 2) := by decide +kernel
theorem d_M_search_8 : decode b_M_search 8 = .ok (.iload 5, 2) := by decide +kernel
theorem d_M_search_10 : decode b_M_search 10 = .ok (.bipush 24, 2) := by decide +kernel
theorem d_M_search_12 : decode b_M_search 12 = .ok (.if_icmp .ge 85, 3) := by decide +kernel
theorem d_M_search_15 : decode b_M_search 15 = .ok (.iload_n 1, 1) := by decide +kernel
theorem d_M_search_16 : decode b_M_search 16 = .ok (.ifCond .eq 81, 3) := by decide +kernel
theorem d_M_search_19 : decode b_M_search 19 = .ok (.iload_n 1, 1) := by decide +kernel
theorem d_M_search_20 : decode b_M_search 20 = .ok (.bipush 127, 2) := by decide +kernel
theorem d_M_search_22 : decode b_M_search 22 = .ok (.iand, 1) := by decide +kernel
theorem d_M_search_23 : decode b_M_search 23 = .ok (.invokestatic 93, 3) := by decide +kernel
theorem d_M_search_26 : decode b_M_search 26 = .ok (.iload 5, 2) := by decide +kernel
theorem d_M_search_28 : decode b_M_search 28 = .ok (.ishr, 1) := by decide +kernel
theorem d_M_search_29 : decode b_M_search 29 = .ok (.iconst 1, 1) := by decide +kernel
theorem d_M_search_30 : decode b_M_search 30 = .ok (.iand, 1) := by decide +kernel
theorem d_M_search_31 : decode b_M_search 31 = .ok (.iconst 1, 1) := by decide +kernel
theorem d_M_search_32 : decode b_M_search 32 = .ok (.if_icmp .ne 59, 3) := by decide +kernel
theorem d_M_search_35 : decode b_M_search 35 = .ok (.aload_n 0, 1) := by decide +kernel
theorem d_M_search_36 : decode b_M_search 36 = .ok (.iload 5, 2) := by decide +kernel
theorem d_M_search_38 : decode b_M_search 38 = .ok (.iload_n 1, 1) := by decide +kernel
theorem d_M_search_39 : decode b_M_search 39 = .ok (.invokevirtual 96, 3) := by decide +kernel
theorem d_M_search_42 : decode b_M_search 42 = .ok (.lstore 6, 2) := by decide +kernel
theorem d_M_search_44 : decode b_M_search 44 = .ok (.lload 6, 2) := by decide +kernel
theorem d_M_search_46 : decode b_M_search 46 = .ok (.ldc2_w 91, 3) := by decide +kernel
theorem d_M_search_49 : decode b_M_search 49 = .ok (.ldiv, 1) := by decide +kernel
theorem d_M_search_50 : decode b_M_search 50 = .ok (.l2i, 1) := by decide +kernel
theorem d_M_search_51 : decode b_M_search 51 = .ok (.iconst 1, 1) := by decide +kernel
theorem d_M_search_52 : decode b_M_search 52 = .ok (.isub, 1) := by decide +kernel
theorem d_M_search_53 : decode b_M_search 53 = .ok (.istore 8, 2) := by decide +kernel
theorem d_M_search_55 : decode b_M_search 55 = .ok (.iload_n 3, 1) := by decide +kernel
theorem d_M_search_56 : decode b_M_search 56 = .ok (.lload 6, 2) := by decide +kernel
theorem d_M_search_58 : decode b_M_search 58 = .ok (.ldc2_w 91, 3) := by decide +kernel
theorem d_M_search_61 : decode b_M_search 61 = .ok (.lrem, 1) := by decide +kernel
theorem d_M_search_62 : decode b_M_search 62 = .ok (.l2i, 1) := by decide +kernel
theorem d_M_search_63 : decode b_M_search 63 = .ok (.iadd, 1) := by decide +kernel
theorem d_M_search_64 : decode b_M_search 64 = .ok (.istore_n 3, 1) := by decide +kernel
theorem d_M_search_65 : decode b_M_search 65 = .ok (.iload 8, 2) := by decide +kernel
theorem d_M_search_67 : decode b_M_search 67 = .ok (.ifCond .lt 20, 3) := by decide +kernel
theorem d_M_search_70 : decode b_M_search 70 = .ok (.iload 4, 2) := by decide +kernel
theorem d_M_search_72 : decode b_M_search 72 = .ok (.ifCond .lt 10, 3) := by decide +kernel
theorem d_M_search_75 : decode b_M_search 75 = .ok (.iload 8, 2) := by decide +kernel
theorem d_M_search_77 : decode b_M_search 77 = .ok (.iload 4, 2) := by decide +kernel
theorem d_M_search_79 : decode b_M_search 79 = .ok (.if_icmp .ge 8, 3) := by decide +kernel
theorem d_M_search_82 : decode b_M_search 82 = .ok (.iload 8, 2) := by decide +kernel
theorem d_M_search_84 : decode b_M_search 84 = .ok (.goto 5, 3) := by decide +kernel
theorem d_M_search_87 : decode b_M_search 87 = .ok (.iload 4, 2) := by decide +kernel
theorem d_M_search_89 : decode b_M_search 89 = .ok (.istore 4, 2) := by decide +kernel
theorem d_M_search_91 : decode b_M_search 91 = .ok (.iinc 5 1, 3) := by decide +kernel
theorem d_M_search_94 : decode b_M_search 94 = .ok (.goto (-86), 3) := by decide +kernel
theorem d_M_search_97 : decode b_M_search 97 = .ok (.iload_n 2, 1) := by decide +kernel
theorem d_M_search_98 : decode b_M_search 98 = .ok (.ifCond .eq 7, 3) := by decide +kernel
theorem d_M_search_101 : decode b_M_search 101 = .ok (.iload_n 3, 1) := by decide +kernel
theorem d_M_search_102 : decode b_M_search 102 = .ok (.goto 5, 3) := by decide +kernel
theorem d_M_search_105 : decode b_M_search 105 = .ok (.iload 4, 2) := by decide +kernel
theorem d_M_search_107 : decode b_M_search 107 = .ok (.ireturn, 1) := by decide +kernel
