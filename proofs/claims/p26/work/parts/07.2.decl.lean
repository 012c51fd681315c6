theorem dL_letter_128 : decode cL_letter 128 = .ok (.iconst 5, 1) := by decide +kernel
theorem dL_letter_129 : decode cL_letter 129 = .ok (.if_icmp .eq 9, 3) := by decide +kernel
theorem dL_letter_132 : decode cL_letter 132 = .ok (.iload_n 0, 1) := by decide +kernel
theorem dL_letter_133 : decode cL_letter 133 = .ok (.bipush 22, 2) := by decide +kernel
theorem dL_letter_135 : decode cL_letter 135 = .ok (.if_icmp .ne 8, 3) := by decide +kernel
theorem dL_letter_138 : decode cL_letter 138 = .ok (.bipush 119, 2) := by decide +kernel
theorem dL_letter_140 : decode cL_letter 140 = .ok (.goto 37, 3) := by decide +kernel
theorem dL_letter_143 : decode cL_letter 143 = .ok (.iload_n 0, 1) := by decide +kernel
theorem dL_letter_144 : decode cL_letter 144 = .ok (.bipush 12, 2) := by decide +kernel
theorem dL_letter_146 : decode cL_letter 146 = .ok (.if_icmp .ne 8, 3) := by decide +kernel
theorem dL_letter_149 : decode cL_letter 149 = .ok (.bipush 108, 2) := by decide +kernel
theorem dL_letter_151 : decode cL_letter 151 = .ok (.goto 26, 3) := by decide +kernel
theorem dL_letter_154 : decode cL_letter 154 = .ok (.iload_n 0, 1) := by decide +kernel
theorem dL_letter_155 : decode cL_letter 155 = .ok (.bipush 13, 2) := by decide +kernel
theorem dL_letter_157 : decode cL_letter 157 = .ok (.if_icmp .ne 8, 3) := by decide +kernel
theorem dL_letter_160 : decode cL_letter 160 = .ok (.bipush 107, 2) := by decide +kernel
theorem dL_letter_162 : decode cL_letter 162 = .ok (.goto 15, 3) := by decide +kernel
theorem dL_letter_165 : decode cL_letter 165 = .ok (.iload_n 0, 1) := by decide +kernel
theorem dL_letter_166 : decode cL_letter 166 = .ok (.bipush 14, 2) := by decide +kernel
theorem dL_letter_168 : decode cL_letter 168 = .ok (.if_icmp .ne 8, 3) := by decide +kernel
theorem dL_letter_171 : decode cL_letter 171 = .ok (.bipush 109, 2) := by decide +kernel
theorem dL_letter_173 : decode cL_letter 173 = .ok (.goto 4, 3) := by decide +kernel
theorem dL_letter_176 : decode cL_letter 176 = .ok (.iconst 0, 1) := by decide +kernel
theorem dL_letter_177 : decode cL_letter 177 = .ok (.istore 4, 2) := by decide +kernel
theorem dL_letter_179 : decode cL_letter 179 = .ok (.iload_n 1, 1) := by decide +kernel
theorem dL_letter_180 : decode cL_letter 180 = .ok (.ifCond .ne 7, 3) := by decide +kernel
theorem dL_letter_183 : decode cL_letter 183 = .ok (.iload_n 2, 1) := by decide +kernel
theorem dL_letter_184 : decode cL_letter 184 = .ok (.goto 39, 3) := by decide +kernel
theorem dL_letter_187 : decode cL_letter 187 = .ok (.iload_n 1, 1) := by decide +kernel
theorem dL_letter_188 : decode cL_letter 188 = .ok (.iconst 1, 1) := by decide +kernel
theorem dL_letter_189 : decode cL_letter 189 = .ok (.if_icmp .ne 7, 3) := by decide +kernel
theorem dL_letter_192 : decode cL_letter 192 = .ok (.iload_n 3, 1) := by decide +kernel
theorem dL_letter_193 : decode cL_letter 193 = .ok (.goto 30, 3) := by decide +kernel
theorem dL_letter_196 : decode cL_letter 196 = .ok (.iload_n 1, 1) := by decide +kernel
theorem dL_letter_197 : decode cL_letter 197 = .ok (.iconst 2, 1) := by decide +kernel
theorem dL_letter_198 : decode cL_letter 198 = .ok (.if_icmp .ne 8, 3) := by decide +kernel
theorem dL_letter_201 : decode cL_letter 201 = .ok (.iload 4, 2) := by decide +kernel
theorem dL_letter_203 : decode cL_letter 203 = .ok (.goto 20, 3) := by decide +kernel
theorem dL_letter_206 : decode cL_letter 206 = .ok (.iload_n 1, 1) := by decide +kernel
theorem dL_letter_207 : decode cL_letter 207 = .ok (.iconst 3, 1) := by decide +kernel
theorem dL_letter_208 : decode cL_letter 208 = .ok (.if_icmp .ne 14, 3) := by decide +kernel
theorem dL_letter_211 : decode cL_letter 211 = .ok (.iload_n 0, 1) := by decide +kernel
theorem dL_letter_212 : decode cL_letter 212 = .ok (.bipush 12, 2) := by decide +kernel
theorem dL_letter_214 : decode cL_letter 214 = .ok (.if_icmp .ne 8, 3) := by decide +kernel
theorem dL_letter_217 : decode cL_letter 217 = .ok (.bipush 108, 2) := by decide +kernel
theorem dL_letter_219 : decode cL_letter 219 = .ok (.goto 4, 3) := by decide +kernel
theorem dL_letter_222 : decode cL_letter 222 = .ok (.iconst 0, 1) := by decide +kernel
theorem dL_letter_223 : decode cL_letter 223 = .ok (.ireturn, 1) := by decide +kernel
theorem dL_isLine_0 : decode cL_isLine 0 = .ok (.iconst 0, 1) := by decide +kernel
theorem dL_isLine_1 : decode cL_isLine 1 = .ok (.istore 5, 2) := by decide +kernel
theorem dL_isLine_3 : decode cL_isLine 3 = .ok (.aload_n 2, 1) := by decide +kernel
theorem dL_isLine_4 : decode cL_isLine 4 = .ok (.iconst 5, 1) := by decide +kernel
theorem dL_isLine_5 : decode cL_isLine 5 = .ok (.iload 4, 2) := by decide +kernel
theorem dL_isLine_7 : decode cL_isLine 7 = .ok (.imul, 1) := by decide +kernel
theorem dL_isLine_8 : decode cL_isLine 8 = .ok (.iaload, 1) := by decide +kernel
theorem dL_isLine_9 : decode cL_isLine 9 = .ok (.istore 6, 2) := by decide +kernel
theorem dL_isLine_11 : decode cL_isLine 11 = .ok (.iconst 0, 1) := by decide +kernel
theorem dL_isLine_12 : decode cL_isLine 12 = .ok (.istore 7, 2) := by decide +kernel
theorem dL_isLine_14 : decode cL_isLine 14 = .ok (.iload 7, 2) := by decide +kernel
theorem dL_isLine_16 : decode cL_isLine 16 = .ok (.iload 6, 2) := by decide +kernel
theorem dL_isLine_18 : decode cL_isLine 18 = .ok (.if_icmp .ge 36, 3) := by decide +kernel
theorem dL_isLine_21 : decode cL_isLine 21 = .ok (.iload 5, 2) := by decide +kernel
theorem dL_isLine_23 : decode cL_isLine 23 = .ok (.aload_n 1, 1) := by decide +kernel
theorem dL_isLine_24 : decode cL_isLine 24 = .ok (.aload_n 2, 1) := by decide +kernel
theorem dL_isLine_25 : decode cL_isLine 25 = .ok (.iconst 5, 1) := by decide +kernel
theorem dL_isLine_26 : decode cL_isLine 26 = .ok (.iload 4, 2) := by decide +kernel
theorem dL_isLine_28 : decode cL_isLine 28 = .ok (.imul, 1) := by decide +kernel
theorem dL_isLine_29 : decode cL_isLine 29 = .ok (.iconst 1, 1) := by decide +kernel
theorem dL_isLine_30 : decode cL_isLine 30 = .ok (.iadd, 1) := by decide +kernel
theorem dL_isLine_31 : decode cL_isLine 31 = .ok (.iload 7, 2) := by decide +kernel
theorem dL_isLine_33 : decode cL_isLine 33 = .ok (.iadd, 1) := by decide +kernel
theorem dL_isLine_34 : decode cL_isLine 34 = .ok (.iaload, 1) := by decide +kernel
theorem dL_isLine_35 : decode cL_isLine 35 = .ok (.iaload, 1) := by decide +kernel
theorem dL_isLine_36 : decode cL_isLine 36 = .ok (.iconst 2, 1) := by decide +kernel
theorem dL_isLine_37 : decode cL_isLine 37 = .ok (.if_icmp .ne 7, 3) := by decide +kernel
theorem dL_isLine_40 : decode cL_isLine 40 = .ok (.iconst 1, 1) := by decide +kernel
theorem dL_isLine_41 : decode cL_isLine 41 = .ok (.goto 4, 3) := by decide +kernel
theorem dL_isLine_44 : decode cL_isLine 44 = .ok (.iconst 0, 1) := by decide +kernel
theorem dL_isLine_45 : decode cL_isLine 45 = .ok (.iadd, 1) := by decide +kernel
theorem dL_isLine_46 : decode cL_isLine 46 = .ok (.istore 5, 2) := by decide +kernel
theorem dL_isLine_48 : decode cL_isLine 48 = .ok (.iinc 7 1, 3) := by decide +kernel
theorem dL_isLine_51 : decode cL_isLine 51 = .ok (.goto (-37), 3) := by decide +kernel
theorem dL_isLine_54 : decode cL_isLine 54 = .ok (.iconst 0, 1) := by decide +kernel
theorem dL_isLine_55 : decode cL_isLine 55 = .ok (.istore 7, 2) := by decide +kernel
theorem dL_isLine_57 : decode cL_isLine 57 = .ok (.iconst 0, 1) := by decide +kernel
theorem dL_isLine_58 : decode cL_isLine 58 = .ok (.istore 8, 2) := by decide +kernel
theorem dL_isLine_60 : decode cL_isLine 60 = .ok (.iconst 0, 1) := by decide +kernel
theorem dL_isLine_61 : decode cL_isLine 61 = .ok (.istore 9, 2) := by decide +kernel
theorem dL_isLine_63 : decode cL_isLine 63 = .ok (.iload 9, 2) := by decide +kernel
theorem dL_isLine_65 : decode cL_isLine 65 = .ok (.bipush 8, 2) := by decide +kernel
theorem dL_isLine_67 : decode cL_isLine 67 = .ok (.if_icmp .ge 144, 3) := by decide +kernel
theorem dL_isLine_70 : decode cL_isLine 70 = .ok (.aload_n 2, 1) := by decide +kernel
theorem dL_isLine_71 : decode cL_isLine 71 = .ok (.iconst 5, 1) := by decide +kernel
theorem dL_isLine_72 : decode cL_isLine 72 = .ok (.iload 4, 2) := by decide +kernel
theorem dL_isLine_74 : decode cL_isLine 74 = .ok (.imul, 1) := by decide +kernel
theorem dL_isLine_75 : decode cL_isLine 75 = .ok (.iconst 1, 1) := by decide +kernel
theorem dL_isLine_76 : decode cL_isLine 76 = .ok (.iadd, 1) := by decide +kernel
theorem dL_isLine_77 : decode cL_isLine 77 = .ok (.iload 9, 2) := by decide +kernel
theorem dL_isLine_79 : decode cL_isLine 79 = .ok (.iconst 4, 1) := by decide +kernel
theorem dL_isLine_80 : decode cL_isLine 80 = .ok (.irem, 1) := by decide +kernel
theorem dL_isLine_81 : decode cL_isLine 81 = .ok (.iadd, 1) := by decide +kernel
theorem dL_isLine_82 : decode cL_isLine 82 = .ok (.iaload, 1) := by decide +kernel
theorem dL_isLine_83 : decode cL_isLine 83 = .ok (.istore 10, 2) := by decide +kernel
theorem dL_isLine_85 : decode cL_isLine 85 = .ok (.iload 5, 2) := by decide +kernel
theorem dL_isLine_87 : decode cL_isLine 87 = .ok (.iload 6, 2) := by decide +kernel
theorem dL_isLine_89 : decode cL_isLine 89 = .ok (.if_icmp .ge 15, 3) := by decide +kernel
theorem dL_isLine_92 : decode cL_isLine 92 = .ok (.aload_n 1, 1) := by decide +kernel
theorem dL_isLine_93 : decode cL_isLine 93 = .ok (.iload 10, 2) := by decide +kernel
theorem dL_isLine_95 : decode cL_isLine 95 = .ok (.iaload, 1) := by decide +kernel
theorem dL_isLine_96 : decode cL_isLine 96 = .ok (.iconst 2, 1) := by decide +kernel
theorem dL_isLine_97 : decode cL_isLine 97 = .ok (.if_icmp .ne 7, 3) := by decide +kernel
theorem dL_isLine_100 : decode cL_isLine 100 = .ok (.iconst 1, 1) := by decide +kernel
theorem dL_isLine_101 : decode cL_isLine 101 = .ok (.goto 4, 3) := by decide +kernel
theorem dL_isLine_104 : decode cL_isLine 104 = .ok (.iconst 0, 1) := by decide +kernel
theorem dL_isLine_105 : decode cL_isLine 105 = .ok (.istore 11, 2) := by decide +kernel
theorem dL_isLine_107 : decode cL_isLine 107 = .ok (.iload 9, 2) := by decide +kernel
theorem dL_isLine_109 : decode cL_isLine 109 = .ok (.iconst 4, 1) := by decide +kernel
theorem dL_isLine_110 : decode cL_isLine 110 = .ok (.irem, 1) := by decide +kernel
theorem dL_isLine_111 : decode cL_isLine 111 = .ok (.iload 6, 2) := by decide +kernel
theorem dL_isLine_113 : decode cL_isLine 113 = .ok (.if_icmp .ge 92, 3) := by decide +kernel
theorem dL_isLine_116 : decode cL_isLine 116 = .ok (.iload 11, 2) := by decide +kernel
theorem dL_isLine_118 : decode cL_isLine 118 = .ok (.iload 9, 2) := by decide +kernel
theorem dL_isLine_120 : decode cL_isLine 120 = .ok (.iconst 3, 1) := by decide +kernel
theorem dL_isLine_121 : decode cL_isLine 121 = .ok (.if_icmp .le 7, 3) := by decide +kernel
theorem dL_isLine_124 : decode cL_isLine 124 = .ok (.iconst 1, 1) := by decide +kernel
theorem dL_isLine_125 : decode cL_isLine 125 = .ok (.goto 4, 3) := by decide +kernel
theorem dL_isLine_128 : decode cL_isLine 128 = .ok (.iconst 0, 1) := by decide +kernel
theorem dL_isLine_129 : decode cL_isLine 129 = .ok (.if_icmp .ne 76, 3) := by decide +kernel
theorem dL_isLine_132 : decode cL_isLine 132 = .ok (.iload 8, 2) := by decide +kernel
theorem dL_isLine_134 : decode cL_isLine 134 = .ok (.ifCond .ne 8, 3) := by decide +kernel
theorem dL_isLine_137 : decode cL_isLine 137 = .ok (.iload 7, 2) := by decide +kernel
theorem dL_isLine_139 : decode cL_isLine 139 = .ok (.goto 49, 3) := by decide +kernel
theorem dL_isLine_142 : decode cL_isLine 142 = .ok (.iload 8, 2) := by decide +kernel
theorem dL_isLine_144 : decode cL_isLine 144 = .ok (.iload 6, 2) := by decide +kernel
theorem dL_isLine_146 : decode cL_isLine 146 = .ok (.iload 5, 2) := by decide +kernel
theorem dL_isLine_148 : decode cL_isLine 148 = .ok (.isub, 1) := by decide +kernel
theorem dL_isLine_149 : decode cL_isLine 149 = .ok (.if_icmp .ne 29, 3) := by decide +kernel
theorem dL_isLine_152 : decode cL_isLine 152 = .ok (.iload 11, 2) := by decide +kernel
theorem dL_isLine_154 : decode cL_isLine 154 = .ok (.ifCond .eq 24, 3) := by decide +kernel
theorem dL_isLine_157 : decode cL_isLine 157 = .ok (.aload_n 0, 1) := by decide +kernel
theorem dL_isLine_158 : decode cL_isLine 158 = .ok (.iload 4, 2) := by decide +kernel
theorem dL_isLine_160 : decode cL_isLine 160 = .ok (.aload_n 0, 1) := by decide +kernel
theorem dL_isLine_161 : decode cL_isLine 161 = .ok (.iload 4, 2) := by decide +kernel
theorem dL_isLine_163 : decode cL_isLine 163 = .ok (.iload 7, 2) := by decide +kernel
theorem dL_isLine_165 : decode cL_isLine 165 = .ok (.bipush 44, 2) := by decide +kernel
theorem dL_isLine_167 : decode cL_isLine 167 = .ok (.invokestatic 36, 3) := by decide +kernel
theorem dL_isLine_170 : decode cL_isLine 170 = .ok (.bipush 32, 2) := by decide +kernel
theorem dL_isLine_172 : decode cL_isLine 172 = .ok (.invokestatic 36, 3) := by decide +kernel
theorem dL_isLine_175 : decode cL_isLine 175 = .ok (.goto 13, 3) := by decide +kernel
theorem dL_isLine_178 : decode cL_isLine 178 = .ok (.aload_n 0, 1) := by decide +kernel
theorem dL_isLine_179 : decode cL_isLine 179 = .ok (.iload 4, 2) := by decide +kernel
theorem dL_isLine_181 : decode cL_isLine 181 = .ok (.iload 7, 2) := by decide +kernel
theorem dL_isLine_183 : decode cL_isLine 183 = .ok (.bipush 32, 2) := by decide +kernel
theorem dL_isLine_185 : decode cL_isLine 185 = .ok (.invokestatic 36, 3) := by decide +kernel
theorem dL_isLine_188 : decode cL_isLine 188 = .ok (.istore 7, 2) := by decide +kernel
theorem dL_isLine_190 : decode cL_isLine 190 = .ok (.aload_n 0, 1) := by decide +kernel
theorem dL_isLine_191 : decode cL_isLine 191 = .ok (.iload 4, 2) := by decide +kernel
theorem dL_isLine_193 : decode cL_isLine 193 = .ok (.iload 7, 2) := by decide +kernel
theorem dL_isLine_195 : decode cL_isLine 195 = .ok (.iload 10, 2) := by decide +kernel
theorem dL_isLine_197 : decode cL_isLine 197 = .ok (.invokestatic 44, 3) := by decide +kernel
theorem dL_isLine_200 : decode cL_isLine 200 = .ok (.istore 7, 2) := by decide +kernel
theorem dL_isLine_202 : decode cL_isLine 202 = .ok (.iinc 8 1, 3) := by decide +kernel
theorem dL_isLine_205 : decode cL_isLine 205 = .ok (.iinc 9 1, 3) := by decide +kernel
theorem dL_isLine_208 : decode cL_isLine 208 = .ok (.goto (-145), 3) := by decide +kernel
theorem dL_isLine_211 : decode cL_isLine 211 = .ok (.iconst 0, 1) := by decide +kernel
theorem dL_isLine_212 : decode cL_isLine 212 = .ok (.istore 9, 2) := by decide +kernel
theorem dL_isLine_214 : decode cL_isLine 214 = .ok (.iconst 0, 1) := by decide +kernel
theorem dL_isLine_215 : decode cL_isLine 215 = .ok (.istore 10, 2) := by decide +kernel
theorem dL_isLine_217 : decode cL_isLine 217 = .ok (.iconst 0, 1) := by decide +kernel
theorem dL_isLine_218 : decode cL_isLine 218 = .ok (.istore 11, 2) := by decide +kernel
theorem dL_isLine_220 : decode cL_isLine 220 = .ok (.iload 11, 2) := by decide +kernel
theorem dL_isLine_222 : decode cL_isLine 222 = .ok (.sipush 144, 3) := by decide +kernel
theorem dL_isLine_225 : decode cL_isLine 225 = .ok (.if_icmp .ge 208, 3) := by decide +kernel
theorem dL_isLine_228 : decode cL_isLine 228 = .ok (.aload_n 3, 1) := by decide +kernel
theorem dL_isLine_229 : decode cL_isLine 229 = .ok (.bipush 7, 2) := by decide +kernel
theorem dL_isLine_231 : decode cL_isLine 231 = .ok (.iload 4, 2) := by decide +kernel
theorem dL_isLine_233 : decode cL_isLine 233 = .ok (.imul, 1) := by decide +kernel
theorem dL_isLine_234 : decode cL_isLine 234 = .ok (.iaload, 1) := by decide +kernel
theorem dL_isLine_235 : decode cL_isLine 235 = .ok (.ifCond .le 198, 3) := by decide +kernel
theorem dL_isLine_238 : decode cL_isLine 238 = .ok (.aload_n 3, 1) := by decide +kernel
theorem dL_isLine_239 : decode cL_isLine 239 = .ok (.iload 4, 2) := by decide +kernel
theorem dL_isLine_241 : decode cL_isLine 241 = .ok (.iload 11, 2) := by decide +kernel
theorem dL_isLine_243 : decode cL_isLine 243 = .ok (.invokestatic 47, 3) := by decide +kernel
theorem dL_isLine_246 : decode cL_isLine 246 = .ok (.istore 12, 2) := by decide +kernel
theorem dL_isLine_248 : decode cL_isLine 248 = .ok (.iload 10, 2) := by decide +kernel
theorem dL_isLine_250 : decode cL_isLine 250 = .ok (.iload 12, 2) := by decide +kernel
theorem dL_isLine_252 : decode cL_isLine 252 = .ok (.ifCond .eq 7, 3) := by decide +kernel
theorem dL_isLine_255 : decode cL_isLine 255 = .ok (.iconst 1, 1) := by decide +kernel
theorem dL_isLine_256 : decode cL_isLine 256 = .ok (.goto 4, 3) := by decide +kernel
theorem dL_isLine_259 : decode cL_isLine 259 = .ok (.iconst 0, 1) := by decide +kernel
theorem dL_isLine_260 : decode cL_isLine 260 = .ok (.iadd, 1) := by decide +kernel
theorem dL_isLine_261 : decode cL_isLine 261 = .ok (.istore 10, 2) := by decide +kernel
theorem dL_isLine_263 : decode cL_isLine 263 = .ok (.iload 12, 2) := by decide +kernel
theorem dL_isLine_265 : decode cL_isLine 265 = .ok (.ifCond .eq 162, 3) := by decide +kernel
theorem dL_isLine_268 : decode cL_isLine 268 = .ok (.iload 11, 2) := by decide +kernel
theorem dL_isLine_270 : decode cL_isLine 270 = .ok (.bipush 12, 2) := by decide +kernel
theorem dL_isLine_272 : decode cL_isLine 272 = .ok (.irem, 1) := by decide +kernel
theorem dL_isLine_273 : decode cL_isLine 273 = .ok (.ifCond .eq 16, 3) := by decide +kernel
theorem dL_isLine_276 : decode cL_isLine 276 = .ok (.aload_n 3, 1) := by decide +kernel
theorem dL_isLine_277 : decode cL_isLine 277 = .ok (.iload 4, 2) := by decide +kernel
theorem dL_isLine_279 : decode cL_isLine 279 = .ok (.iload 11, 2) := by decide +kernel
theorem dL_isLine_281 : decode cL_isLine 281 = .ok (.iconst 1, 1) := by decide +kernel
theorem dL_isLine_282 : decode cL_isLine 282 = .ok (.isub, 1) := by decide +kernel
theorem dL_isLine_283 : decode cL_isLine 283 = .ok (.invokestatic 47, 3) := by decide +kernel
theorem dL_isLine_286 : decode cL_isLine 286 = .ok (.ifCond .ne 141, 3) := by decide +kernel
theorem dL_isLine_289 : decode cL_isLine 289 = .ok (.iload 11, 2) := by decide +kernel
theorem dL_isLine_291 : decode cL_isLine 291 = .ok (.istore 13, 2) := by decide +kernel
theorem dL_isLine_293 : decode cL_isLine 293 = .ok (.iload 13, 2) := by decide +kernel
theorem dL_isLine_295 : decode cL_isLine 295 = .ok (.bipush 12, 2) := by decide +kernel
theorem dL_isLine_297 : decode cL_isLine 297 = .ok (.irem, 1) := by decide +kernel
theorem dL_isLine_298 : decode cL_isLine 298 = .ok (.bipush 11, 2) := by decide +kernel
theorem dL_isLine_300 : decode cL_isLine 300 = .ok (.if_icmp .ge 22, 3) := by decide +kernel
theorem dL_isLine_303 : decode cL_isLine 303 = .ok (.aload_n 3, 1) := by decide +kernel
theorem dL_isLine_304 : decode cL_isLine 304 = .ok (.iload 4, 2) := by decide +kernel
theorem dL_isLine_306 : decode cL_isLine 306 = .ok (.iload 13, 2) := by decide +kernel
theorem dL_isLine_308 : decode cL_isLine 308 = .ok (.iconst 1, 1) := by decide +kernel
theorem dL_isLine_309 : decode cL_isLine 309 = .ok (.iadd, 1) := by decide +kernel
theorem dL_isLine_310 : decode cL_isLine 310 = .ok (.invokestatic 47, 3) := by decide +kernel
theorem dL_isLine_313 : decode cL_isLine 313 = .ok (.ifCond .eq 9, 3) := by decide +kernel
theorem dL_isLine_316 : decode cL_isLine 316 = .ok (.iinc 13 1, 3) := by decide +kernel
theorem dL_isLine_319 : decode cL_isLine 319 = .ok (.goto (-26), 3) := by decide +kernel
theorem dL_isLine_322 : decode cL_isLine 322 = .ok (.iload 9, 2) := by decide +kernel
theorem dL_isLine_324 : decode cL_isLine 324 = .ok (.ifCond .ne 16, 3) := by decide +kernel
theorem dL_isLine_327 : decode cL_isLine 327 = .ok (.aload_n 0, 1) := by decide +kernel
theorem dL_isLine_328 : decode cL_isLine 328 = .ok (.iload 4, 2) := by decide +kernel
theorem dL_isLine_330 : decode cL_isLine 330 = .ok (.iload 7, 2) := by decide +kernel
theorem dL_isLine_332 : decode cL_isLine 332 = .ok (.bipush 58, 2) := by decide +kernel
theorem dL_isLine_334 : decode cL_isLine 334 = .ok (.invokestatic 36, 3) := by decide +kernel
theorem dL_isLine_337 : decode cL_isLine 337 = .ok (.goto 5, 3) := by decide +kernel
theorem dL_isLine_340 : decode cL_isLine 340 = .ok (.iload 7, 2) := by decide +kernel
theorem dL_isLine_342 : decode cL_isLine 342 = .ok (.istore 7, 2) := by decide +kernel
theorem dL_isLine_344 : decode cL_isLine 344 = .ok (.aload_n 0, 1) := by decide +kernel
theorem dL_isLine_345 : decode cL_isLine 345 = .ok (.iload 4, 2) := by decide +kernel
theorem dL_isLine_347 : decode cL_isLine 347 = .ok (.aload_n 0, 1) := by decide +kernel
theorem dL_isLine_348 : decode cL_isLine 348 = .ok (.iload 4, 2) := by decide +kernel
theorem dL_isLine_350 : decode cL_isLine 350 = .ok (.iload 7, 2) := by decide +kernel
theorem dL_isLine_352 : decode cL_isLine 352 = .ok (.bipush 32, 2) := by decide +kernel
theorem dL_isLine_354 : decode cL_isLine 354 = .ok (.invokestatic 36, 3) := by decide +kernel
theorem dL_isLine_357 : decode cL_isLine 357 = .ok (.bipush 65, 2) := by decide +kernel
theorem dL_isLine_359 : decode cL_isLine 359 = .ok (.iload 11, 2) := by decide +kernel
theorem dL_isLine_361 : decode cL_isLine 361 = .ok (.bipush 12, 2) := by decide +kernel
theorem dL_isLine_363 : decode cL_isLine 363 = .ok (.idiv, 1) := by decide +kernel
theorem dL_isLine_364 : decode cL_isLine 364 = .ok (.iadd, 1) := by decide +kernel
theorem dL_isLine_365 : decode cL_isLine 365 = .ok (.invokestatic 36, 3) := by decide +kernel
theorem dL_isLine_368 : decode cL_isLine 368 = .ok (.istore 7, 2) := by decide +kernel
theorem dL_isLine_370 : decode cL_isLine 370 = .ok (.aload_n 0, 1) := by decide +kernel
theorem dL_isLine_371 : decode cL_isLine 371 = .ok (.iload 4, 2) := by decide +kernel
theorem dL_isLine_373 : decode cL_isLine 373 = .ok (.iload 7, 2) := by decide +kernel
theorem dL_isLine_375 : decode cL_isLine 375 = .ok (.iload 11, 2) := by decide +kernel
theorem dL_isLine_377 : decode cL_isLine 377 = .ok (.bipush 12, 2) := by decide +kernel
theorem dL_isLine_379 : decode cL_isLine 379 = .ok (.irem, 1) := by decide +kernel
theorem dL_isLine_380 : decode cL_isLine 380 = .ok (.iconst 1, 1) := by decide +kernel
theorem dL_isLine_381 : decode cL_isLine 381 = .ok (.iadd, 1) := by decide +kernel
theorem dL_isLine_382 : decode cL_isLine 382 = .ok (.invokestatic 51, 3) := by decide +kernel
theorem dL_isLine_385 : decode cL_isLine 385 = .ok (.istore 7, 2) := by decide +kernel
theorem dL_isLine_387 : decode cL_isLine 387 = .ok (.iload 13, 2) := by decide +kernel
theorem dL_isLine_389 : decode cL_isLine 389 = .ok (.iload 11, 2) := by decide +kernel
theorem dL_isLine_391 : decode cL_isLine 391 = .ok (.if_icmp .le 29, 3) := by decide +kernel
theorem dL_isLine_394 : decode cL_isLine 394 = .ok (.aload_n 0, 1) := by decide +kernel
theorem dL_isLine_395 : decode cL_isLine 395 = .ok (.iload 4, 2) := by decide +kernel
theorem dL_isLine_397 : decode cL_isLine 397 = .ok (.aload_n 0, 1) := by decide +kernel
theorem dL_isLine_398 : decode cL_isLine 398 = .ok (.iload 4, 2) := by decide +kernel
theorem dL_isLine_400 : decode cL_isLine 400 = .ok (.iload 7, 2) := by decide +kernel
theorem dL_isLine_402 : decode cL_isLine 402 = .ok (.bipush 45, 2) := by decide +kernel
theorem dL_isLine_404 : decode cL_isLine 404 = .ok (.invokestatic 36, 3) := by decide +kernel
theorem dL_isLine_407 : decode cL_isLine 407 = .ok (.iload 13, 2) := by decide +kernel
theorem dL_isLine_409 : decode cL_isLine 409 = .ok (.bipush 12, 2) := by decide +kernel
theorem dL_isLine_411 : decode cL_isLine 411 = .ok (.irem, 1) := by decide +kernel
theorem dL_isLine_412 : decode cL_isLine 412 = .ok (.iconst 1, 1) := by decide +kernel
theorem dL_isLine_413 : decode cL_isLine 413 = .ok (.iadd, 1) := by decide +kernel
theorem dL_isLine_414 : decode cL_isLine 414 = .ok (.invokestatic 51, 3) := by decide +kernel
theorem dL_isLine_417 : decode cL_isLine 417 = .ok (.goto 5, 3) := by decide +kernel
theorem dL_isLine_420 : decode cL_isLine 420 = .ok (.iload 7, 2) := by decide +kernel
theorem dL_isLine_422 : decode cL_isLine 422 = .ok (.istore 7, 2) := by decide +kernel
theorem dL_isLine_424 : decode cL_isLine 424 = .ok (.iinc 9 1, 3) := by decide +kernel
theorem dL_isLine_427 : decode cL_isLine 427 = .ok (.iinc 11 1, 3) := by decide +kernel
theorem dL_isLine_430 : decode cL_isLine 430 = .ok (.goto (-210), 3) := by decide +kernel
theorem dL_isLine_433 : decode cL_isLine 433 = .ok (.iload 7, 2) := by decide +kernel
theorem dL_isLine_435 : decode cL_isLine 435 = .ok (.aload_n 0, 1) := by decide +kernel
theorem dL_isLine_436 : decode cL_isLine 436 = .ok (.iload 4, 2) := by decide +kernel
theorem dL_isLine_438 : decode cL_isLine 438 = .ok (.invokevirtual 27, 3) := by decide +kernel
theorem dL_isLine_441 : decode cL_isLine 441 = .ok (.if_icmp .ne 29, 3) := by decide +kernel
theorem dL_isLine_444 : decode cL_isLine 444 = .ok (.aload_n 0, 1) := by decide +kernel
theorem dL_isLine_445 : decode cL_isLine 445 = .ok (.iload 4, 2) := by decide +kernel
theorem dL_isLine_447 : decode cL_isLine 447 = .ok (.invokevirtual 54, 3) := by decide +kernel
theorem dL_isLine_450 : decode cL_isLine 450 = .ok (.iload 9, 2) := by decide +kernel
theorem dL_isLine_452 : decode cL_isLine 452 = .ok (.if_icmp .ne 18, 3) := by decide +kernel
theorem dL_isLine_455 : decode cL_isLine 455 = .ok (.aload_n 0, 1) := by decide +kernel
theorem dL_isLine_456 : decode cL_isLine 456 = .ok (.iload 4, 2) := by decide +kernel
theorem dL_isLine_458 : decode cL_isLine 458 = .ok (.invokevirtual 57, 3) := by decide +kernel
theorem dL_isLine_461 : decode cL_isLine 461 = .ok (.iload 10, 2) := by decide +kernel
theorem dL_isLine_463 : decode cL_isLine 463 = .ok (.if_icmp .ne 7, 3) := by decide +kernel
theorem dL_isLine_466 : decode cL_isLine 466 = .ok (.iconst 1, 1) := by decide +kernel
theorem dL_isLine_467 : decode cL_isLine 467 = .ok (.goto 4, 3) := by decide +kernel
theorem dL_isLine_470 : decode cL_isLine 470 = .ok (.iconst 0, 1) := by decide +kernel
theorem dL_isLine_471 : decode cL_isLine 471 = .ok (.ireturn, 1) := by decide +kernel
theorem dL_apart_0 : decode cL_apart 0 = .ok (.iload_n 0, 1) := by decide +kernel
theorem dL_apart_1 : decode cL_apart 1 = .ok (.bipush 12, 2) := by decide +kernel
theorem dL_apart_3 : decode cL_apart 3 = .ok (.idiv, 1) := by decide +kernel
theorem dL_apart_4 : decode cL_apart 4 = .ok (.iload_n 1, 1) := by decide +kernel
