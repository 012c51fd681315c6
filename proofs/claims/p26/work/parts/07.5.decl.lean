theorem dL_added_12 : decode cL_added 12 = .ok (.ireturn, 1) := by decide +kernel
theorem dL_isPointed_0 : decode cL_isPointed 0 = .ok (.aload_n 1, 1) := by decide +kernel
theorem dL_isPointed_1 : decode cL_isPointed 1 = .ok (.bipush 7, 2) := by decide +kernel
theorem dL_isPointed_3 : decode cL_isPointed 3 = .ok (.iload_n 2, 1) := by decide +kernel
theorem dL_isPointed_4 : decode cL_isPointed 4 = .ok (.imul, 1) := by decide +kernel
theorem dL_isPointed_5 : decode cL_isPointed 5 = .ok (.iaload, 1) := by decide +kernel
theorem dL_isPointed_6 : decode cL_isPointed 6 = .ok (.istore 4, 2) := by decide +kernel
theorem dL_isPointed_8 : decode cL_isPointed 8 = .ok (.iload 4, 2) := by decide +kernel
theorem dL_isPointed_10 : decode cL_isPointed 10 = .ok (.ifCond .ne 7, 3) := by decide +kernel
theorem dL_isPointed_13 : decode cL_isPointed 13 = .ok (.iconst 0, 1) := by decide +kernel
theorem dL_isPointed_14 : decode cL_isPointed 14 = .ok (.goto 12, 3) := by decide +kernel
theorem dL_isPointed_17 : decode cL_isPointed 17 = .ok (.aload_n 1, 1) := by decide +kernel
theorem dL_isPointed_18 : decode cL_isPointed 18 = .ok (.bipush 7, 2) := by decide +kernel
theorem dL_isPointed_20 : decode cL_isPointed 20 = .ok (.iload_n 2, 1) := by decide +kernel
theorem dL_isPointed_21 : decode cL_isPointed 21 = .ok (.imul, 1) := by decide +kernel
theorem dL_isPointed_22 : decode cL_isPointed 22 = .ok (.iload 4, 2) := by decide +kernel
theorem dL_isPointed_24 : decode cL_isPointed 24 = .ok (.iadd, 1) := by decide +kernel
theorem dL_isPointed_25 : decode cL_isPointed 25 = .ok (.iaload, 1) := by decide +kernel
theorem dL_isPointed_26 : decode cL_isPointed 26 = .ok (.istore 5, 2) := by decide +kernel
theorem dL_isPointed_28 : decode cL_isPointed 28 = .ok (.iload_n 3, 1) := by decide +kernel
theorem dL_isPointed_29 : decode cL_isPointed 29 = .ok (.iconst 3, 1) := by decide +kernel
theorem dL_isPointed_30 : decode cL_isPointed 30 = .ok (.irem, 1) := by decide +kernel
theorem dL_isPointed_31 : decode cL_isPointed 31 = .ok (.ifCond .ne 13, 3) := by decide +kernel
theorem dL_isPointed_34 : decode cL_isPointed 34 = .ok (.iconst 1, 1) := by decide +kernel
theorem dL_isPointed_35 : decode cL_isPointed 35 = .ok (.iload_n 3, 1) := by decide +kernel
theorem dL_isPointed_36 : decode cL_isPointed 36 = .ok (.iconst 3, 1) := by decide +kernel
theorem dL_isPointed_37 : decode cL_isPointed 37 = .ok (.idiv, 1) := by decide +kernel
theorem dL_isPointed_38 : decode cL_isPointed 38 = .ok (.iconst 4, 1) := by decide +kernel
theorem dL_isPointed_39 : decode cL_isPointed 39 = .ok (.irem, 1) := by decide +kernel
theorem dL_isPointed_40 : decode cL_isPointed 40 = .ok (.iadd, 1) := by decide +kernel
theorem dL_isPointed_41 : decode cL_isPointed 41 = .ok (.goto 4, 3) := by decide +kernel
theorem dL_isPointed_44 : decode cL_isPointed 44 = .ok (.iconst 0, 1) := by decide +kernel
theorem dL_isPointed_45 : decode cL_isPointed 45 = .ok (.istore 6, 2) := by decide +kernel
theorem dL_isPointed_47 : decode cL_isPointed 47 = .ok (.iload 6, 2) := by decide +kernel
theorem dL_isPointed_49 : decode cL_isPointed 49 = .ok (.ifCond .ne 13, 3) := by decide +kernel
theorem dL_isPointed_52 : decode cL_isPointed 52 = .ok (.iload_n 3, 1) := by decide +kernel
theorem dL_isPointed_53 : decode cL_isPointed 53 = .ok (.bipush 7, 2) := by decide +kernel
theorem dL_isPointed_55 : decode cL_isPointed 55 = .ok (.idiv, 1) := by decide +kernel
theorem dL_isPointed_56 : decode cL_isPointed 56 = .ok (.bipush 6, 2) := by decide +kernel
theorem dL_isPointed_58 : decode cL_isPointed 58 = .ok (.irem, 1) := by decide +kernel
theorem dL_isPointed_59 : decode cL_isPointed 59 = .ok (.goto 8, 3) := by decide +kernel
theorem dL_isPointed_62 : decode cL_isPointed 62 = .ok (.iload 5, 2) := by decide +kernel
theorem dL_isPointed_64 : decode cL_isPointed 64 = .ok (.bipush 12, 2) := by decide +kernel
theorem dL_isPointed_66 : decode cL_isPointed 66 = .ok (.idiv, 1) := by decide +kernel
theorem dL_isPointed_67 : decode cL_isPointed 67 = .ok (.istore 7, 2) := by decide +kernel
theorem dL_isPointed_69 : decode cL_isPointed 69 = .ok (.iload 6, 2) := by decide +kernel
theorem dL_isPointed_71 : decode cL_isPointed 71 = .ok (.ifCond .ne 13, 3) := by decide +kernel
theorem dL_isPointed_74 : decode cL_isPointed 74 = .ok (.iload_n 3, 1) := by decide +kernel
theorem dL_isPointed_75 : decode cL_isPointed 75 = .ok (.bipush 43, 2) := by decide +kernel
theorem dL_isPointed_77 : decode cL_isPointed 77 = .ok (.idiv, 1) := by decide +kernel
theorem dL_isPointed_78 : decode cL_isPointed 78 = .ok (.bipush 6, 2) := by decide +kernel
theorem dL_isPointed_80 : decode cL_isPointed 80 = .ok (.irem, 1) := by decide +kernel
theorem dL_isPointed_81 : decode cL_isPointed 81 = .ok (.goto 8, 3) := by decide +kernel
theorem dL_isPointed_84 : decode cL_isPointed 84 = .ok (.iload 5, 2) := by decide +kernel
theorem dL_isPointed_86 : decode cL_isPointed 86 = .ok (.bipush 12, 2) := by decide +kernel
theorem dL_isPointed_88 : decode cL_isPointed 88 = .ok (.irem, 1) := by decide +kernel
theorem dL_isPointed_89 : decode cL_isPointed 89 = .ok (.istore 8, 2) := by decide +kernel
theorem dL_isPointed_91 : decode cL_isPointed 91 = .ok (.iload 7, 2) := by decide +kernel
theorem dL_isPointed_93 : decode cL_isPointed 93 = .ok (.iload 6, 2) := by decide +kernel
theorem dL_isPointed_95 : decode cL_isPointed 95 = .ok (.iconst 1, 1) := by decide +kernel
theorem dL_isPointed_96 : decode cL_isPointed 96 = .ok (.if_icmp .eq 9, 3) := by decide +kernel
theorem dL_isPointed_99 : decode cL_isPointed 99 = .ok (.iload 6, 2) := by decide +kernel
theorem dL_isPointed_101 : decode cL_isPointed 101 = .ok (.iconst 2, 1) := by decide +kernel
theorem dL_isPointed_102 : decode cL_isPointed 102 = .ok (.if_icmp .ne 7, 3) := by decide +kernel
theorem dL_isPointed_105 : decode cL_isPointed 105 = .ok (.iconst 2, 1) := by decide +kernel
theorem dL_isPointed_106 : decode cL_isPointed 106 = .ok (.goto 4, 3) := by decide +kernel
theorem dL_isPointed_109 : decode cL_isPointed 109 = .ok (.iconst 0, 1) := by decide +kernel
theorem dL_isPointed_110 : decode cL_isPointed 110 = .ok (.iadd, 1) := by decide +kernel
theorem dL_isPointed_111 : decode cL_isPointed 111 = .ok (.istore 7, 2) := by decide +kernel
theorem dL_isPointed_113 : decode cL_isPointed 113 = .ok (.iload 8, 2) := by decide +kernel
theorem dL_isPointed_115 : decode cL_isPointed 115 = .ok (.iload 6, 2) := by decide +kernel
theorem dL_isPointed_117 : decode cL_isPointed 117 = .ok (.iconst 1, 1) := by decide +kernel
theorem dL_isPointed_118 : decode cL_isPointed 118 = .ok (.if_icmp .le 7, 3) := by decide +kernel
theorem dL_isPointed_121 : decode cL_isPointed 121 = .ok (.iconst 2, 1) := by decide +kernel
theorem dL_isPointed_122 : decode cL_isPointed 122 = .ok (.goto 4, 3) := by decide +kernel
theorem dL_isPointed_125 : decode cL_isPointed 125 = .ok (.iconst 0, 1) := by decide +kernel
theorem dL_isPointed_126 : decode cL_isPointed 126 = .ok (.iadd, 1) := by decide +kernel
theorem dL_isPointed_127 : decode cL_isPointed 127 = .ok (.istore 8, 2) := by decide +kernel
theorem dL_isPointed_129 : decode cL_isPointed 129 = .ok (.iload 4, 2) := by decide +kernel
theorem dL_isPointed_131 : decode cL_isPointed 131 = .ok (.iconst 5, 1) := by decide +kernel
theorem dL_isPointed_132 : decode cL_isPointed 132 = .ok (.if_icmp .eq 17, 3) := by decide +kernel
theorem dL_isPointed_135 : decode cL_isPointed 135 = .ok (.iload 7, 2) := by decide +kernel
theorem dL_isPointed_137 : decode cL_isPointed 137 = .ok (.bipush 11, 2) := by decide +kernel
theorem dL_isPointed_139 : decode cL_isPointed 139 = .ok (.if_icmp .gt 10, 3) := by decide +kernel
theorem dL_isPointed_142 : decode cL_isPointed 142 = .ok (.iload 8, 2) := by decide +kernel
theorem dL_isPointed_144 : decode cL_isPointed 144 = .ok (.bipush 11, 2) := by decide +kernel
theorem dL_isPointed_146 : decode cL_isPointed 146 = .ok (.if_icmp .le 5, 3) := by decide +kernel
theorem dL_isPointed_149 : decode cL_isPointed 149 = .ok (.iconst 1, 1) := by decide +kernel
theorem dL_isPointed_150 : decode cL_isPointed 150 = .ok (.ireturn, 1) := by decide +kernel
theorem dL_isPointed_151 : decode cL_isPointed 151 = .ok (.iload 7, 2) := by decide +kernel
theorem dL_isPointed_153 : decode cL_isPointed 153 = .ok (.iload 5, 2) := by decide +kernel
theorem dL_isPointed_155 : decode cL_isPointed 155 = .ok (.bipush 12, 2) := by decide +kernel
theorem dL_isPointed_157 : decode cL_isPointed 157 = .ok (.idiv, 1) := by decide +kernel
theorem dL_isPointed_158 : decode cL_isPointed 158 = .ok (.isub, 1) := by decide +kernel
theorem dL_isPointed_159 : decode cL_isPointed 159 = .ok (.istore 9, 2) := by decide +kernel
theorem dL_isPointed_161 : decode cL_isPointed 161 = .ok (.iload 8, 2) := by decide +kernel
theorem dL_isPointed_163 : decode cL_isPointed 163 = .ok (.iload 5, 2) := by decide +kernel
theorem dL_isPointed_165 : decode cL_isPointed 165 = .ok (.bipush 12, 2) := by decide +kernel
theorem dL_isPointed_167 : decode cL_isPointed 167 = .ok (.irem, 1) := by decide +kernel
theorem dL_isPointed_168 : decode cL_isPointed 168 = .ok (.isub, 1) := by decide +kernel
theorem dL_isPointed_169 : decode cL_isPointed 169 = .ok (.istore 10, 2) := by decide +kernel
theorem dL_isPointed_171 : decode cL_isPointed 171 = .ok (.iload 4, 2) := by decide +kernel
theorem dL_isPointed_173 : decode cL_isPointed 173 = .ok (.ifCond .eq 42, 3) := by decide +kernel
theorem dL_isPointed_176 : decode cL_isPointed 176 = .ok (.iload 9, 2) := by decide +kernel
theorem dL_isPointed_178 : decode cL_isPointed 178 = .ok (.ifCond .eq 23, 3) := by decide +kernel
theorem dL_isPointed_181 : decode cL_isPointed 181 = .ok (.iload 10, 2) := by decide +kernel
theorem dL_isPointed_183 : decode cL_isPointed 183 = .ok (.ifCond .eq 18, 3) := by decide +kernel
theorem dL_isPointed_186 : decode cL_isPointed 186 = .ok (.iload 9, 2) := by decide +kernel
theorem dL_isPointed_188 : decode cL_isPointed 188 = .ok (.iload 10, 2) := by decide +kernel
theorem dL_isPointed_190 : decode cL_isPointed 190 = .ok (.if_icmp .eq 11, 3) := by decide +kernel
theorem dL_isPointed_193 : decode cL_isPointed 193 = .ok (.iload 9, 2) := by decide +kernel
theorem dL_isPointed_195 : decode cL_isPointed 195 = .ok (.iload 10, 2) := by decide +kernel
theorem dL_isPointed_197 : decode cL_isPointed 197 = .ok (.ineg, 1) := by decide +kernel
theorem dL_isPointed_198 : decode cL_isPointed 198 = .ok (.if_icmp .ne 21, 3) := by decide +kernel
theorem dL_isPointed_201 : decode cL_isPointed 201 = .ok (.iload 9, 2) := by decide +kernel
theorem dL_isPointed_203 : decode cL_isPointed 203 = .ok (.iload 9, 2) := by decide +kernel
theorem dL_isPointed_205 : decode cL_isPointed 205 = .ok (.imul, 1) := by decide +kernel
theorem dL_isPointed_206 : decode cL_isPointed 206 = .ok (.iload 10, 2) := by decide +kernel
theorem dL_isPointed_208 : decode cL_isPointed 208 = .ok (.iload 10, 2) := by decide +kernel
theorem dL_isPointed_210 : decode cL_isPointed 210 = .ok (.imul, 1) := by decide +kernel
theorem dL_isPointed_211 : decode cL_isPointed 211 = .ok (.iadd, 1) := by decide +kernel
theorem dL_isPointed_212 : decode cL_isPointed 212 = .ok (.ifCond .le 7, 3) := by decide +kernel
theorem dL_isPointed_215 : decode cL_isPointed 215 = .ok (.iconst 1, 1) := by decide +kernel
theorem dL_isPointed_216 : decode cL_isPointed 216 = .ok (.goto 4, 3) := by decide +kernel
theorem dL_isPointed_219 : decode cL_isPointed 219 = .ok (.iconst 0, 1) := by decide +kernel
theorem dL_isPointed_220 : decode cL_isPointed 220 = .ok (.istore 11, 2) := by decide +kernel
theorem dL_isPointed_222 : decode cL_isPointed 222 = .ok (.iload 11, 2) := by decide +kernel
theorem dL_isPointed_224 : decode cL_isPointed 224 = .ok (.ifCond .eq 32, 3) := by decide +kernel
theorem dL_isPointed_227 : decode cL_isPointed 227 = .ok (.aload_n 1, 1) := by decide +kernel
theorem dL_isPointed_228 : decode cL_isPointed 228 = .ok (.bipush 7, 2) := by decide +kernel
theorem dL_isPointed_230 : decode cL_isPointed 230 = .ok (.iload_n 2, 1) := by decide +kernel
theorem dL_isPointed_231 : decode cL_isPointed 231 = .ok (.imul, 1) := by decide +kernel
theorem dL_isPointed_232 : decode cL_isPointed 232 = .ok (.dup2, 1) := by decide +kernel
theorem dL_isPointed_233 : decode cL_isPointed 233 = .ok (.iaload, 1) := by decide +kernel
theorem dL_isPointed_234 : decode cL_isPointed 234 = .ok (.iconst 1, 1) := by decide +kernel
theorem dL_isPointed_235 : decode cL_isPointed 235 = .ok (.iadd, 1) := by decide +kernel
theorem dL_isPointed_236 : decode cL_isPointed 236 = .ok (.iastore, 1) := by decide +kernel
theorem dL_isPointed_237 : decode cL_isPointed 237 = .ok (.aload_n 1, 1) := by decide +kernel
theorem dL_isPointed_238 : decode cL_isPointed 238 = .ok (.bipush 7, 2) := by decide +kernel
theorem dL_isPointed_240 : decode cL_isPointed 240 = .ok (.iload_n 2, 1) := by decide +kernel
theorem dL_isPointed_241 : decode cL_isPointed 241 = .ok (.imul, 1) := by decide +kernel
theorem dL_isPointed_242 : decode cL_isPointed 242 = .ok (.iload 4, 2) := by decide +kernel
theorem dL_isPointed_244 : decode cL_isPointed 244 = .ok (.iadd, 1) := by decide +kernel
theorem dL_isPointed_245 : decode cL_isPointed 245 = .ok (.iconst 1, 1) := by decide +kernel
theorem dL_isPointed_246 : decode cL_isPointed 246 = .ok (.iadd, 1) := by decide +kernel
theorem dL_isPointed_247 : decode cL_isPointed 247 = .ok (.bipush 12, 2) := by decide +kernel
theorem dL_isPointed_249 : decode cL_isPointed 249 = .ok (.iload 7, 2) := by decide +kernel
theorem dL_isPointed_251 : decode cL_isPointed 251 = .ok (.imul, 1) := by decide +kernel
theorem dL_isPointed_252 : decode cL_isPointed 252 = .ok (.iload 8, 2) := by decide +kernel
theorem dL_isPointed_254 : decode cL_isPointed 254 = .ok (.iadd, 1) := by decide +kernel
theorem dL_isPointed_255 : decode cL_isPointed 255 = .ok (.iastore, 1) := by decide +kernel
theorem dL_isPointed_256 : decode cL_isPointed 256 = .ok (.iconst 0, 1) := by decide +kernel
theorem dL_isPointed_257 : decode cL_isPointed 257 = .ok (.istore 12, 2) := by decide +kernel
theorem dL_isPointed_259 : decode cL_isPointed 259 = .ok (.aload_n 1, 1) := by decide +kernel
theorem dL_isPointed_260 : decode cL_isPointed 260 = .ok (.iload_n 2, 1) := by decide +kernel
theorem dL_isPointed_261 : decode cL_isPointed 261 = .ok (.iload 12, 2) := by decide +kernel
theorem dL_isPointed_263 : decode cL_isPointed 263 = .ok (.invokestatic 23, 3) := by decide +kernel
theorem dL_isPointed_266 : decode cL_isPointed 266 = .ok (.ifCond .lt 9, 3) := by decide +kernel
theorem dL_isPointed_269 : decode cL_isPointed 269 = .ok (.iinc 12 1, 3) := by decide +kernel
theorem dL_isPointed_272 : decode cL_isPointed 272 = .ok (.goto (-13), 3) := by decide +kernel
theorem dL_isPointed_275 : decode cL_isPointed 275 = .ok (.aload_n 0, 1) := by decide +kernel
theorem dL_isPointed_276 : decode cL_isPointed 276 = .ok (.iload_n 2, 1) := by decide +kernel
theorem dL_isPointed_277 : decode cL_isPointed 277 = .ok (.iload 7, 2) := by decide +kernel
theorem dL_isPointed_279 : decode cL_isPointed 279 = .ok (.iload 8, 2) := by decide +kernel
theorem dL_isPointed_281 : decode cL_isPointed 281 = .ok (.invokestatic 118, 3) := by decide +kernel
theorem dL_isPointed_284 : decode cL_isPointed 284 = .ok (.iload 11, 2) := by decide +kernel
theorem dL_isPointed_286 : decode cL_isPointed 286 = .ok (.ifCond .eq 8, 3) := by decide +kernel
theorem dL_isPointed_289 : decode cL_isPointed 289 = .ok (.iload 12, 2) := by decide +kernel
theorem dL_isPointed_291 : decode cL_isPointed 291 = .ok (.goto 5, 3) := by decide +kernel
theorem dL_isPointed_294 : decode cL_isPointed 294 = .ok (.bipush (-2), 2) := by decide +kernel
theorem dL_isPointed_296 : decode cL_isPointed 296 = .ok (.if_icmp .ne 7, 3) := by decide +kernel
theorem dL_isPointed_299 : decode cL_isPointed 299 = .ok (.iconst 1, 1) := by decide +kernel
theorem dL_isPointed_300 : decode cL_isPointed 300 = .ok (.goto 4, 3) := by decide +kernel
theorem dL_isPointed_303 : decode cL_isPointed 303 = .ok (.iconst 0, 1) := by decide +kernel
theorem dL_isPointed_304 : decode cL_isPointed 304 = .ok (.ireturn, 1) := by decide +kernel
theorem dL_holds_0 : decode cL_holds 0 = .ok (.new 28, 3) := by decide +kernel
theorem dL_holds_3 : decode cL_holds 3 = .ok (.dup, 1) := by decide +kernel
theorem dL_holds_4 : decode cL_holds 4 = .ok (.invokespecial 121, 3) := by decide +kernel
theorem dL_holds_7 : decode cL_holds 7 = .ok (.astore_n 1, 1) := by decide +kernel
theorem dL_holds_8 : decode cL_holds 8 = .ok (.bipush 24, 2) := by decide +kernel
theorem dL_holds_10 : decode cL_holds 10 = .ok (.newarray .int, 2) := by decide +kernel
theorem dL_holds_12 : decode cL_holds 12 = .ok (.astore_n 2, 1) := by decide +kernel
theorem dL_holds_13 : decode cL_holds 13 = .ok (.bipush 25, 2) := by decide +kernel
theorem dL_holds_15 : decode cL_holds 15 = .ok (.newarray .int, 2) := by decide +kernel
theorem dL_holds_17 : decode cL_holds 17 = .ok (.astore_n 3, 1) := by decide +kernel
theorem dL_holds_18 : decode cL_holds 18 = .ok (.bipush 35, 2) := by decide +kernel
theorem dL_holds_20 : decode cL_holds 20 = .ok (.newarray .int, 2) := by decide +kernel
theorem dL_holds_22 : decode cL_holds 22 = .ok (.astore 4, 2) := by decide +kernel
theorem dL_holds_24 : decode cL_holds 24 = .ok (.iconst 0, 1) := by decide +kernel
theorem dL_holds_25 : decode cL_holds 25 = .ok (.istore 5, 2) := by decide +kernel
theorem dL_holds_27 : decode cL_holds 27 = .ok (.iload 5, 2) := by decide +kernel
theorem dL_holds_29 : decode cL_holds 29 = .ok (.iconst 4, 1) := by decide +kernel
theorem dL_holds_30 : decode cL_holds 30 = .ok (.if_icmp .ge 14, 3) := by decide +kernel
theorem dL_holds_33 : decode cL_holds 33 = .ok (.aload_n 2, 1) := by decide +kernel
theorem dL_holds_34 : decode cL_holds 34 = .ok (.iload 5, 2) := by decide +kernel
theorem dL_holds_36 : decode cL_holds 36 = .ok (.iconst 1, 1) := by decide +kernel
theorem dL_holds_37 : decode cL_holds 37 = .ok (.iastore, 1) := by decide +kernel
theorem dL_holds_38 : decode cL_holds 38 = .ok (.iinc 5 1, 3) := by decide +kernel
theorem dL_holds_41 : decode cL_holds 41 = .ok (.goto (-14), 3) := by decide +kernel
theorem dL_holds_44 : decode cL_holds 44 = .ok (.iconst 0, 1) := by decide +kernel
theorem dL_holds_45 : decode cL_holds 45 = .ok (.istore 5, 2) := by decide +kernel
theorem dL_holds_47 : decode cL_holds 47 = .ok (.iconst 1, 1) := by decide +kernel
theorem dL_holds_48 : decode cL_holds 48 = .ok (.istore 6, 2) := by decide +kernel
theorem dL_holds_50 : decode cL_holds 50 = .ok (.iconst 0, 1) := by decide +kernel
theorem dL_holds_51 : decode cL_holds 51 = .ok (.istore 7, 2) := by decide +kernel
theorem dL_holds_53 : decode cL_holds 53 = .ok (.iload 7, 2) := by decide +kernel
theorem dL_holds_55 : decode cL_holds 55 = .ok (.bipush 70, 2) := by decide +kernel
theorem dL_holds_57 : decode cL_holds 57 = .ok (.if_icmp .ge 608, 3) := by decide +kernel
theorem dL_holds_60 : decode cL_holds 60 = .ok (.iload 6, 2) := by decide +kernel
theorem dL_holds_62 : decode cL_holds 62 = .ok (.ifCond .eq 603, 3) := by decide +kernel
theorem dL_holds_65 : decode cL_holds 65 = .ok (.iload 7, 2) := by decide +kernel
theorem dL_holds_67 : decode cL_holds 67 = .ok (.iconst 2, 1) := by decide +kernel
theorem dL_holds_68 : decode cL_holds 68 = .ok (.if_icmp .ge 7, 3) := by decide +kernel
theorem dL_holds_71 : decode cL_holds 71 = .ok (.iconst 0, 1) := by decide +kernel
theorem dL_holds_72 : decode cL_holds 72 = .ok (.goto 13, 3) := by decide +kernel
theorem dL_holds_75 : decode cL_holds 75 = .ok (.aload_n 0, 1) := by decide +kernel
theorem dL_holds_76 : decode cL_holds 76 = .ok (.iconst 3, 1) := by decide +kernel
theorem dL_holds_77 : decode cL_holds 77 = .ok (.iload 7, 2) := by decide +kernel
theorem dL_holds_79 : decode cL_holds 79 = .ok (.imul, 1) := by decide +kernel
theorem dL_holds_80 : decode cL_holds 80 = .ok (.bipush 12, 2) := by decide +kernel
theorem dL_holds_82 : decode cL_holds 82 = .ok (.invokestatic 122, 3) := by decide +kernel
theorem dL_holds_85 : decode cL_holds 85 = .ok (.istore 8, 2) := by decide +kernel
theorem dL_holds_87 : decode cL_holds 87 = .ok (.aload_n 0, 1) := by decide +kernel
theorem dL_holds_88 : decode cL_holds 88 = .ok (.iconst 3, 1) := by decide +kernel
theorem dL_holds_89 : decode cL_holds 89 = .ok (.iload 7, 2) := by decide +kernel
theorem dL_holds_91 : decode cL_holds 91 = .ok (.imul, 1) := by decide +kernel
theorem dL_holds_92 : decode cL_holds 92 = .ok (.iconst 1, 1) := by decide +kernel
theorem dL_holds_93 : decode cL_holds 93 = .ok (.iadd, 1) := by decide +kernel
theorem dL_holds_94 : decode cL_holds 94 = .ok (.ldc 125, 2) := by decide +kernel
theorem dL_holds_96 : decode cL_holds 96 = .ok (.invokestatic 122, 3) := by decide +kernel
theorem dL_holds_99 : decode cL_holds 99 = .ok (.istore 9, 2) := by decide +kernel
theorem dL_holds_101 : decode cL_holds 101 = .ok (.iload 5, 2) := by decide +kernel
theorem dL_holds_103 : decode cL_holds 103 = .ok (.ifCond .ne 7, 3) := by decide +kernel
theorem dL_holds_106 : decode cL_holds 106 = .ok (.iconst 0, 1) := by decide +kernel
theorem dL_holds_107 : decode cL_holds 107 = .ok (.goto 15, 3) := by decide +kernel
theorem dL_holds_110 : decode cL_holds 110 = .ok (.aload_n 0, 1) := by decide +kernel
theorem dL_holds_111 : decode cL_holds 111 = .ok (.iconst 3, 1) := by decide +kernel
theorem dL_holds_112 : decode cL_holds 112 = .ok (.iload 7, 2) := by decide +kernel
theorem dL_holds_114 : decode cL_holds 114 = .ok (.imul, 1) := by decide +kernel
theorem dL_holds_115 : decode cL_holds 115 = .ok (.iconst 2, 1) := by decide +kernel
theorem dL_holds_116 : decode cL_holds 116 = .ok (.iadd, 1) := by decide +kernel
theorem dL_holds_117 : decode cL_holds 117 = .ok (.iload 5, 2) := by decide +kernel
theorem dL_holds_119 : decode cL_holds 119 = .ok (.invokestatic 122, 3) := by decide +kernel
theorem dL_holds_122 : decode cL_holds 122 = .ok (.istore 10, 2) := by decide +kernel
theorem dL_holds_124 : decode cL_holds 124 = .ok (.iload 8, 2) := by decide +kernel
theorem dL_holds_126 : decode cL_holds 126 = .ok (.ifCond .ne 49, 3) := by decide +kernel
theorem dL_holds_129 : decode cL_holds 129 = .ok (.iload 5, 2) := by decide +kernel
theorem dL_holds_131 : decode cL_holds 131 = .ok (.iconst 5, 1) := by decide +kernel
theorem dL_holds_132 : decode cL_holds 132 = .ok (.if_icmp .ge 43, 3) := by decide +kernel
theorem dL_holds_135 : decode cL_holds 135 = .ok (.aload_n 3, 1) := by decide +kernel
theorem dL_holds_136 : decode cL_holds 136 = .ok (.iload 5, 2) := by decide +kernel
theorem dL_holds_138 : decode cL_holds 138 = .ok (.iload 9, 2) := by decide +kernel
theorem dL_holds_140 : decode cL_holds 140 = .ok (.invokestatic 126, 3) := by decide +kernel
theorem dL_holds_143 : decode cL_holds 143 = .ok (.istore 11, 2) := by decide +kernel
theorem dL_holds_145 : decode cL_holds 145 = .ok (.aload_n 1, 1) := by decide +kernel
theorem dL_holds_146 : decode cL_holds 146 = .ok (.aload_n 3, 1) := by decide +kernel
theorem dL_holds_147 : decode cL_holds 147 = .ok (.iconst 5, 1) := by decide +kernel
theorem dL_holds_148 : decode cL_holds 148 = .ok (.iload 5, 2) := by decide +kernel
theorem dL_holds_150 : decode cL_holds 150 = .ok (.imul, 1) := by decide +kernel
theorem dL_holds_151 : decode cL_holds 151 = .ok (.iaload, 1) := by decide +kernel
theorem dL_holds_152 : decode cL_holds 152 = .ok (.iload 11, 2) := by decide +kernel
theorem dL_holds_154 : decode cL_holds 154 = .ok (.invokevirtual 129, 3) := by decide +kernel
theorem dL_holds_157 : decode cL_holds 157 = .ok (.iload 5, 2) := by decide +kernel
theorem dL_holds_159 : decode cL_holds 159 = .ok (.if_icmp .ne 7, 3) := by decide +kernel
theorem dL_holds_162 : decode cL_holds 162 = .ok (.iconst 1, 1) := by decide +kernel
theorem dL_holds_163 : decode cL_holds 163 = .ok (.goto 4, 3) := by decide +kernel
theorem dL_holds_166 : decode cL_holds 166 = .ok (.iconst 0, 1) := by decide +kernel
theorem dL_holds_167 : decode cL_holds 167 = .ok (.istore 6, 2) := by decide +kernel
theorem dL_holds_169 : decode cL_holds 169 = .ok (.iinc 5 1, 3) := by decide +kernel
theorem dL_holds_172 : decode cL_holds 172 = .ok (.goto 239, 3) := by decide +kernel
theorem dL_holds_175 : decode cL_holds 175 = .ok (.iload 8, 2) := by decide +kernel
theorem dL_holds_177 : decode cL_holds 177 = .ok (.iconst 1, 1) := by decide +kernel
theorem dL_holds_178 : decode cL_holds 178 = .ok (.if_icmp .ne 30, 3) := by decide +kernel
theorem dL_holds_181 : decode cL_holds 181 = .ok (.aload_n 3, 1) := by decide +kernel
theorem dL_holds_182 : decode cL_holds 182 = .ok (.iload 10, 2) := by decide +kernel
theorem dL_holds_184 : decode cL_holds 184 = .ok (.iload 9, 2) := by decide +kernel
theorem dL_holds_186 : decode cL_holds 186 = .ok (.invokestatic 126, 3) := by decide +kernel
theorem dL_holds_189 : decode cL_holds 189 = .ok (.istore 11, 2) := by decide +kernel
theorem dL_holds_191 : decode cL_holds 191 = .ok (.aload_n 1, 1) := by decide +kernel
theorem dL_holds_192 : decode cL_holds 192 = .ok (.iload 10, 2) := by decide +kernel
theorem dL_holds_194 : decode cL_holds 194 = .ok (.aload_n 3, 1) := by decide +kernel
theorem dL_holds_195 : decode cL_holds 195 = .ok (.iconst 5, 1) := by decide +kernel
theorem dL_holds_196 : decode cL_holds 196 = .ok (.iload 10, 2) := by decide +kernel
theorem dL_holds_198 : decode cL_holds 198 = .ok (.imul, 1) := by decide +kernel
theorem dL_holds_199 : decode cL_holds 199 = .ok (.iaload, 1) := by decide +kernel
theorem dL_holds_200 : decode cL_holds 200 = .ok (.iload 11, 2) := by decide +kernel
theorem dL_holds_202 : decode cL_holds 202 = .ok (.invokevirtual 132, 3) := by decide +kernel
theorem dL_holds_205 : decode cL_holds 205 = .ok (.goto 206, 3) := by decide +kernel
theorem dL_holds_208 : decode cL_holds 208 = .ok (.iload 8, 2) := by decide +kernel
theorem dL_holds_210 : decode cL_holds 210 = .ok (.iconst 2, 1) := by decide +kernel
theorem dL_holds_211 : decode cL_holds 211 = .ok (.if_icmp .ne 57, 3) := by decide +kernel
theorem dL_holds_214 : decode cL_holds 214 = .ok (.aload_n 2, 1) := by decide +kernel
theorem dL_holds_215 : decode cL_holds 215 = .ok (.iload 9, 2) := by decide +kernel
theorem dL_holds_217 : decode cL_holds 217 = .ok (.invokestatic 110, 3) := by decide +kernel
theorem dL_holds_220 : decode cL_holds 220 = .ok (.iaload, 1) := by decide +kernel
theorem dL_holds_221 : decode cL_holds 221 = .ok (.istore 11, 2) := by decide +kernel
theorem dL_holds_223 : decode cL_holds 223 = .ok (.aload_n 2, 1) := by decide +kernel
theorem dL_holds_224 : decode cL_holds 224 = .ok (.iload 9, 2) := by decide +kernel
theorem dL_holds_226 : decode cL_holds 226 = .ok (.invokestatic 110, 3) := by decide +kernel
theorem dL_holds_229 : decode cL_holds 229 = .ok (.iload 9, 2) := by decide +kernel
