set_option maxRecDepth 20000 in
theorem ggX5_init_X5_spell : GoodIn wsX5_init wsX5_spell := goodIn_r _ [23, 5, 24, 25, 26, 27, 28, 29, 30, 31, 32, 33, 34, 35, 36, 37, 38, 39, 40] (by decide +kernel) (by decide +kernel)
set_option maxRecDepth 20000 in
theorem gX5_init_X5_spell : GoodIn wsX5_init (wsV RX5 50 RX5 yX5_spell wsX5_spell) := goodIn_app (goodIn_of _ (by decide +kernel)) ggX5_init_X5_spell
theorem dX5_init_0 : decode cX5_init 0 = .ok (.aload_n 0, 1) := by decide +kernel
theorem dX5_init_1 : decode cX5_init 1 = .ok (.invokespecial 1, 3) := by decide +kernel
theorem dX5_init_4 : decode cX5_init 4 = .ok (.aload_n 0, 1) := by decide +kernel
theorem dX5_init_5 : decode cX5_init 5 = .ok (.sipush 192, 3) := by decide +kernel
theorem dX5_init_8 : decode cX5_init 8 = .ok (.newarray .int, 2) := by decide +kernel
theorem dX5_init_10 : decode cX5_init 10 = .ok (.putfield 7, 3) := by decide +kernel
theorem dX5_init_13 : decode cX5_init 13 = .ok (.aload_n 0, 1) := by decide +kernel
theorem dX5_init_14 : decode cX5_init 14 = .ok (.bipush 24, 2) := by decide +kernel
theorem dX5_init_16 : decode cX5_init 16 = .ok (.newarray .int, 2) := by decide +kernel
theorem dX5_init_18 : decode cX5_init 18 = .ok (.putfield 13, 3) := by decide +kernel
theorem dX5_init_21 : decode cX5_init 21 = .ok (.aload_n 0, 1) := by decide +kernel
theorem dX5_init_22 : decode cX5_init 22 = .ok (.bipush 64, 2) := by decide +kernel
theorem dX5_init_24 : decode cX5_init 24 = .ok (.newarray .int, 2) := by decide +kernel
theorem dX5_init_26 : decode cX5_init 26 = .ok (.putfield 16, 3) := by decide +kernel
theorem dX5_init_29 : decode cX5_init 29 = .ok (.aload_n 0, 1) := by decide +kernel
theorem dX5_init_30 : decode cX5_init 30 = .ok (.bipush 16, 2) := by decide +kernel
theorem dX5_init_32 : decode cX5_init 32 = .ok (.newarray .int, 2) := by decide +kernel
theorem dX5_init_34 : decode cX5_init 34 = .ok (.putfield 19, 3) := by decide +kernel
theorem dX5_init_37 : decode cX5_init 37 = .ok (.aload_n 0, 1) := by decide +kernel
theorem dX5_init_38 : decode cX5_init 38 = .ok (.sipush 160, 3) := by decide +kernel
theorem dX5_init_41 : decode cX5_init 41 = .ok (.newarray .int, 2) := by decide +kernel
theorem dX5_init_43 : decode cX5_init 43 = .ok (.putfield 22, 3) := by decide +kernel
theorem dX5_init_46 : decode cX5_init 46 = .ok (.aload_n 0, 1) := by decide +kernel
theorem dX5_init_47 : decode cX5_init 47 = .ok (.bipush 16, 2) := by decide +kernel
theorem dX5_init_49 : decode cX5_init 49 = .ok (.newarray .int, 2) := by decide +kernel
theorem dX5_init_51 : decode cX5_init 51 = .ok (.putfield 25, 3) := by decide +kernel
theorem dX5_init_54 : decode cX5_init 54 = .ok (.aload_n 0, 1) := by decide +kernel
theorem dX5_init_55 : decode cX5_init 55 = .ok (.bipush 16, 2) := by decide +kernel
theorem dX5_init_57 : decode cX5_init 57 = .ok (.newarray .boolean, 2) := by decide +kernel
theorem dX5_init_59 : decode cX5_init 59 = .ok (.putfield 28, 3) := by decide +kernel
theorem dX5_init_62 : decode cX5_init 62 = .ok (.aload_n 0, 1) := by decide +kernel
theorem dX5_init_63 : decode cX5_init 63 = .ok (.bipush 100, 2) := by decide +kernel
theorem dX5_init_65 : decode cX5_init 65 = .ok (.newarray .int, 2) := by decide +kernel
theorem dX5_init_67 : decode cX5_init 67 = .ok (.putfield 32, 3) := by decide +kernel
theorem dX5_init_70 : decode cX5_init 70 = .ok (.aload_n 0, 1) := by decide +kernel
theorem dX5_init_71 : decode cX5_init 71 = .ok (.sipush 144, 3) := by decide +kernel
theorem dX5_init_74 : decode cX5_init 74 = .ok (.newarray .boolean, 2) := by decide +kernel
theorem dX5_init_76 : decode cX5_init 76 = .ok (.putfield 35, 3) := by decide +kernel
theorem dX5_init_79 : decode cX5_init 79 = .ok (.aload_n 0, 1) := by decide +kernel
theorem dX5_init_80 : decode cX5_init 80 = .ok (.iconst 4, 1) := by decide +kernel
theorem dX5_init_81 : decode cX5_init 81 = .ok (.newarray .int, 2) := by decide +kernel
theorem dX5_init_83 : decode cX5_init 83 = .ok (.putfield 38, 3) := by decide +kernel
theorem dX5_init_86 : decode cX5_init 86 = .ok (.aload_n 0, 1) := by decide +kernel
theorem dX5_init_87 : decode cX5_init 87 = .ok (.iconst 4, 1) := by decide +kernel
theorem dX5_init_88 : decode cX5_init 88 = .ok (.newarray .int, 2) := by decide +kernel
theorem dX5_init_90 : decode cX5_init 90 = .ok (.putfield 41, 3) := by decide +kernel
theorem dX5_init_93 : decode cX5_init 93 = .ok (.aload_n 0, 1) := by decide +kernel
theorem dX5_init_94 : decode cX5_init 94 = .ok (.sipush 800, 3) := by decide +kernel
theorem dX5_init_97 : decode cX5_init 97 = .ok (.newarray .int, 2) := by decide +kernel
theorem dX5_init_99 : decode cX5_init 99 = .ok (.putfield 44, 3) := by decide +kernel
theorem dX5_init_102 : decode cX5_init 102 = .ok (.aload_n 0, 1) := by decide +kernel
theorem dX5_init_103 : decode cX5_init 103 = .ok (.sipush 144, 3) := by decide +kernel
theorem dX5_init_106 : decode cX5_init 106 = .ok (.newarray .int, 2) := by decide +kernel
theorem dX5_init_108 : decode cX5_init 108 = .ok (.putfield 47, 3) := by decide +kernel
theorem dX5_init_111 : decode cX5_init 111 = .ok (.aload_n 0, 1) := by decide +kernel
theorem dX5_init_112 : decode cX5_init 112 = .ok (.iconst 0, 1) := by decide +kernel
theorem dX5_init_113 : decode cX5_init 113 = .ok (.bipush 116, 2) := by decide +kernel
theorem dX5_init_115 : decode cX5_init 115 = .ok (.bipush 104, 2) := by decide +kernel
theorem dX5_init_117 : decode cX5_init 117 = .ok (.bipush 101, 2) := by decide +kernel
theorem dX5_init_119 : decode cX5_init 119 = .ok (.iconst 0, 1) := by decide +kernel
theorem dX5_init_120 : decode cX5_init 120 = .ok (.iconst 0, 1) := by decide +kernel
theorem dX5_init_121 : decode cX5_init 121 = .ok (.iconst 0, 1) := by decide +kernel
theorem dX5_init_122 : decode cX5_init 122 = .ok (.iconst 0, 1) := by decide +kernel
theorem dX5_init_123 : decode cX5_init 123 = .ok (.invokevirtual 50, 3) := by decide +kernel
theorem dX5_init_126 : decode cX5_init 126 = .ok (.aload_n 0, 1) := by decide +kernel
theorem dX5_init_127 : decode cX5_init 127 = .ok (.iconst 1, 1) := by decide +kernel
theorem dX5_init_128 : decode cX5_init 128 = .ok (.bipush 111, 2) := by decide +kernel
theorem dX5_init_130 : decode cX5_init 130 = .ok (.bipush 102, 2) := by decide +kernel
theorem dX5_init_132 : decode cX5_init 132 = .ok (.iconst 0, 1) := by decide +kernel
theorem dX5_init_133 : decode cX5_init 133 = .ok (.iconst 0, 1) := by decide +kernel
theorem dX5_init_134 : decode cX5_init 134 = .ok (.iconst 0, 1) := by decide +kernel
theorem dX5_init_135 : decode cX5_init 135 = .ok (.iconst 0, 1) := by decide +kernel
theorem dX5_init_136 : decode cX5_init 136 = .ok (.iconst 0, 1) := by decide +kernel
theorem dX5_init_137 : decode cX5_init 137 = .ok (.invokevirtual 50, 3) := by decide +kernel
theorem dX5_init_140 : decode cX5_init 140 = .ok (.aload_n 0, 1) := by decide +kernel
theorem dX5_init_141 : decode cX5_init 141 = .ok (.iconst 2, 1) := by decide +kernel
theorem dX5_init_142 : decode cX5_init 142 = .ok (.bipush 111, 2) := by decide +kernel
theorem dX5_init_144 : decode cX5_init 144 = .ok (.bipush 110, 2) := by decide +kernel
theorem dX5_init_146 : decode cX5_init 146 = .ok (.iconst 0, 1) := by decide +kernel
theorem dX5_init_147 : decode cX5_init 147 = .ok (.iconst 0, 1) := by decide +kernel
theorem dX5_init_148 : decode cX5_init 148 = .ok (.iconst 0, 1) := by decide +kernel
theorem dX5_init_149 : decode cX5_init 149 = .ok (.iconst 0, 1) := by decide +kernel
theorem dX5_init_150 : decode cX5_init 150 = .ok (.iconst 0, 1) := by decide +kernel
theorem dX5_init_151 : decode cX5_init 151 = .ok (.invokevirtual 50, 3) := by decide +kernel
theorem dX5_init_154 : decode cX5_init 154 = .ok (.aload_n 0, 1) := by decide +kernel
theorem dX5_init_155 : decode cX5_init 155 = .ok (.iconst 3, 1) := by decide +kernel
theorem dX5_init_156 : decode cX5_init 156 = .ok (.bipush 117, 2) := by decide +kernel
theorem dX5_init_158 : decode cX5_init 158 = .ok (.bipush 112, 2) := by decide +kernel
theorem dX5_init_160 : decode cX5_init 160 = .ok (.bipush 111, 2) := by decide +kernel
theorem dX5_init_162 : decode cX5_init 162 = .ok (.bipush 110, 2) := by decide +kernel
theorem dX5_init_164 : decode cX5_init 164 = .ok (.iconst 0, 1) := by decide +kernel
theorem dX5_init_165 : decode cX5_init 165 = .ok (.iconst 0, 1) := by decide +kernel
theorem dX5_init_166 : decode cX5_init 166 = .ok (.iconst 0, 1) := by decide +kernel
theorem dX5_init_167 : decode cX5_init 167 = .ok (.invokevirtual 50, 3) := by decide +kernel
theorem dX5_init_170 : decode cX5_init 170 = .ok (.aload_n 0, 1) := by decide +kernel
theorem dX5_init_171 : decode cX5_init 171 = .ok (.iconst 4, 1) := by decide +kernel
theorem dX5_init_172 : decode cX5_init 172 = .ok (.bipush 111, 2) := by decide +kernel
theorem dX5_init_174 : decode cX5_init 174 = .ok (.bipush 108, 2) := by decide +kernel
theorem dX5_init_176 : decode cX5_init 176 = .ok (.bipush 100, 2) := by decide +kernel
theorem dX5_init_178 : decode cX5_init 178 = .ok (.iconst 0, 1) := by decide +kernel
theorem dX5_init_179 : decode cX5_init 179 = .ok (.iconst 0, 1) := by decide +kernel
theorem dX5_init_180 : decode cX5_init 180 = .ok (.iconst 0, 1) := by decide +kernel
theorem dX5_init_181 : decode cX5_init 181 = .ok (.iconst 0, 1) := by decide +kernel
theorem dX5_init_182 : decode cX5_init 182 = .ok (.invokevirtual 50, 3) := by decide +kernel
theorem dX5_init_185 : decode cX5_init 185 = .ok (.aload_n 0, 1) := by decide +kernel
theorem dX5_init_186 : decode cX5_init 186 = .ok (.iconst 5, 1) := by decide +kernel
theorem dX5_init_187 : decode cX5_init 187 = .ok (.bipush 110, 2) := by decide +kernel
theorem dX5_init_189 : decode cX5_init 189 = .ok (.bipush 101, 2) := by decide +kernel
theorem dX5_init_191 : decode cX5_init 191 = .ok (.bipush 119, 2) := by decide +kernel
theorem dX5_init_193 : decode cX5_init 193 = .ok (.iconst 0, 1) := by decide +kernel
theorem dX5_init_194 : decode cX5_init 194 = .ok (.iconst 0, 1) := by decide +kernel
theorem dX5_init_195 : decode cX5_init 195 = .ok (.iconst 0, 1) := by decide +kernel
theorem dX5_init_196 : decode cX5_init 196 = .ok (.iconst 0, 1) := by decide +kernel
theorem dX5_init_197 : decode cX5_init 197 = .ok (.invokevirtual 50, 3) := by decide +kernel
theorem dX5_init_200 : decode cX5_init 200 = .ok (.aload_n 0, 1) := by decide +kernel
theorem dX5_init_201 : decode cX5_init 201 = .ok (.bipush 6, 2) := by decide +kernel
theorem dX5_init_203 : decode cX5_init 203 = .ok (.bipush 117, 2) := by decide +kernel
theorem dX5_init_205 : decode cX5_init 205 = .ok (.bipush 112, 2) := by decide +kernel
theorem dX5_init_207 : decode cX5_init 207 = .ok (.bipush 112, 2) := by decide +kernel
theorem dX5_init_209 : decode cX5_init 209 = .ok (.bipush 101, 2) := by decide +kernel
theorem dX5_init_211 : decode cX5_init 211 = .ok (.bipush 114, 2) := by decide +kernel
theorem dX5_init_213 : decode cX5_init 213 = .ok (.iconst 0, 1) := by decide +kernel
theorem dX5_init_214 : decode cX5_init 214 = .ok (.iconst 0, 1) := by decide +kernel
theorem dX5_init_215 : decode cX5_init 215 = .ok (.invokevirtual 50, 3) := by decide +kernel
theorem dX5_init_218 : decode cX5_init 218 = .ok (.aload_n 0, 1) := by decide +kernel
theorem dX5_init_219 : decode cX5_init 219 = .ok (.bipush 7, 2) := by decide +kernel
theorem dX5_init_221 : decode cX5_init 221 = .ok (.bipush 108, 2) := by decide +kernel
theorem dX5_init_223 : decode cX5_init 223 = .ok (.bipush 111, 2) := by decide +kernel
theorem dX5_init_225 : decode cX5_init 225 = .ok (.bipush 119, 2) := by decide +kernel
theorem dX5_init_227 : decode cX5_init 227 = .ok (.bipush 101, 2) := by decide +kernel
theorem dX5_init_229 : decode cX5_init 229 = .ok (.bipush 114, 2) := by decide +kernel
theorem dX5_init_231 : decode cX5_init 231 = .ok (.iconst 0, 1) := by decide +kernel
theorem dX5_init_232 : decode cX5_init 232 = .ok (.iconst 0, 1) := by decide +kernel
theorem dX5_init_233 : decode cX5_init 233 = .ok (.invokevirtual 50, 3) := by decide +kernel
theorem dX5_init_236 : decode cX5_init 236 = .ok (.aload_n 0, 1) := by decide +kernel
theorem dX5_init_237 : decode cX5_init 237 = .ok (.bipush 8, 2) := by decide +kernel
theorem dX5_init_239 : decode cX5_init 239 = .ok (.bipush 103, 2) := by decide +kernel
theorem dX5_init_241 : decode cX5_init 241 = .ok (.bipush 114, 2) := by decide +kernel
theorem dX5_init_243 : decode cX5_init 243 = .ok (.bipush 101, 2) := by decide +kernel
theorem dX5_init_245 : decode cX5_init 245 = .ok (.bipush 97, 2) := by decide +kernel
theorem dX5_init_247 : decode cX5_init 247 = .ok (.bipush 116, 2) := by decide +kernel
theorem dX5_init_249 : decode cX5_init 249 = .ok (.iconst 0, 1) := by decide +kernel
theorem dX5_init_250 : decode cX5_init 250 = .ok (.iconst 0, 1) := by decide +kernel
theorem dX5_init_251 : decode cX5_init 251 = .ok (.invokevirtual 50, 3) := by decide +kernel
theorem dX5_init_254 : decode cX5_init 254 = .ok (.aload_n 0, 1) := by decide +kernel
theorem dX5_init_255 : decode cX5_init 255 = .ok (.bipush 9, 2) := by decide +kernel
theorem dX5_init_257 : decode cX5_init 257 = .ok (.bipush 108, 2) := by decide +kernel
theorem dX5_init_259 : decode cX5_init 259 = .ok (.bipush 105, 2) := by decide +kernel
theorem dX5_init_261 : decode cX5_init 261 = .ok (.bipush 116, 2) := by decide +kernel
theorem dX5_init_263 : decode cX5_init 263 = .ok (.bipush 116, 2) := by decide +kernel
theorem dX5_init_265 : decode cX5_init 265 = .ok (.bipush 108, 2) := by decide +kernel
theorem dX5_init_267 : decode cX5_init 267 = .ok (.bipush 101, 2) := by decide +kernel
theorem dX5_init_269 : decode cX5_init 269 = .ok (.iconst 0, 1) := by decide +kernel
theorem dX5_init_270 : decode cX5_init 270 = .ok (.invokevirtual 50, 3) := by decide +kernel
theorem dX5_init_273 : decode cX5_init 273 = .ok (.aload_n 0, 1) := by decide +kernel
theorem dX5_init_274 : decode cX5_init 274 = .ok (.bipush 10, 2) := by decide +kernel
theorem dX5_init_276 : decode cX5_init 276 = .ok (.bipush 115, 2) := by decide +kernel
theorem dX5_init_278 : decode cX5_init 278 = .ok (.bipush 97, 2) := by decide +kernel
theorem dX5_init_280 : decode cX5_init 280 = .ok (.bipush 105, 2) := by decide +kernel
theorem dX5_init_282 : decode cX5_init 282 = .ok (.bipush 110, 2) := by decide +kernel
theorem dX5_init_284 : decode cX5_init 284 = .ok (.bipush 116, 2) := by decide +kernel
theorem dX5_init_286 : decode cX5_init 286 = .ok (.iconst 0, 1) := by decide +kernel
theorem dX5_init_287 : decode cX5_init 287 = .ok (.iconst 0, 1) := by decide +kernel
theorem dX5_init_288 : decode cX5_init 288 = .ok (.invokevirtual 50, 3) := by decide +kernel
theorem dX5_init_291 : decode cX5_init 291 = .ok (.aload_n 0, 1) := by decide +kernel
theorem dX5_init_292 : decode cX5_init 292 = .ok (.bipush 11, 2) := by decide +kernel
theorem dX5_init_294 : decode cX5_init 294 = .ok (.bipush 107, 2) := by decide +kernel
theorem dX5_init_296 : decode cX5_init 296 = .ok (.bipush 105, 2) := by decide +kernel
theorem dX5_init_298 : decode cX5_init 298 = .ok (.bipush 110, 2) := by decide +kernel
theorem dX5_init_300 : decode cX5_init 300 = .ok (.bipush 103, 2) := by decide +kernel
theorem dX5_init_302 : decode cX5_init 302 = .ok (.iconst 0, 1) := by decide +kernel
theorem dX5_init_303 : decode cX5_init 303 = .ok (.iconst 0, 1) := by decide +kernel
theorem dX5_init_304 : decode cX5_init 304 = .ok (.iconst 0, 1) := by decide +kernel
theorem dX5_init_305 : decode cX5_init 305 = .ok (.invokevirtual 50, 3) := by decide +kernel
theorem dX5_init_308 : decode cX5_init 308 = .ok (.aload_n 0, 1) := by decide +kernel
theorem dX5_init_309 : decode cX5_init 309 = .ok (.bipush 12, 2) := by decide +kernel
theorem dX5_init_311 : decode cX5_init 311 = .ok (.bipush 109, 2) := by decide +kernel
theorem dX5_init_313 : decode cX5_init 313 = .ok (.bipush 105, 2) := by decide +kernel
theorem dX5_init_315 : decode cX5_init 315 = .ok (.bipush 108, 2) := by decide +kernel
theorem dX5_init_317 : decode cX5_init 317 = .ok (.bipush 108, 2) := by decide +kernel
theorem dX5_init_319 : decode cX5_init 319 = .ok (.iconst 0, 1) := by decide +kernel
theorem dX5_init_320 : decode cX5_init 320 = .ok (.iconst 0, 1) := by decide +kernel
theorem dX5_init_321 : decode cX5_init 321 = .ok (.iconst 0, 1) := by decide +kernel
theorem dX5_init_322 : decode cX5_init 322 = .ok (.invokevirtual 50, 3) := by decide +kernel
theorem dX5_init_325 : decode cX5_init 325 = .ok (.aload_n 0, 1) := by decide +kernel
theorem dX5_init_326 : decode cX5_init 326 = .ok (.bipush 13, 2) := by decide +kernel
theorem dX5_init_328 : decode cX5_init 328 = .ok (.bipush 111, 2) := by decide +kernel
theorem dX5_init_330 : decode cX5_init 330 = .ok (.bipush 97, 2) := by decide +kernel
theorem dX5_init_332 : decode cX5_init 332 = .ok (.bipush 107, 2) := by decide +kernel
theorem dX5_init_334 : decode cX5_init 334 = .ok (.iconst 0, 1) := by decide +kernel
theorem dX5_init_335 : decode cX5_init 335 = .ok (.iconst 0, 1) := by decide +kernel
theorem dX5_init_336 : decode cX5_init 336 = .ok (.iconst 0, 1) := by decide +kernel
theorem dX5_init_337 : decode cX5_init 337 = .ok (.iconst 0, 1) := by decide +kernel
theorem dX5_init_338 : decode cX5_init 338 = .ok (.invokevirtual 50, 3) := by decide +kernel
theorem dX5_init_341 : decode cX5_init 341 = .ok (.aload_n 0, 1) := by decide +kernel
theorem dX5_init_342 : decode cX5_init 342 = .ok (.bipush 14, 2) := by decide +kernel
theorem dX5_init_344 : decode cX5_init 344 = .ok (.bipush 101, 2) := by decide +kernel
theorem dX5_init_346 : decode cX5_init 346 = .ok (.bipush 108, 2) := by decide +kernel
theorem dX5_init_348 : decode cX5_init 348 = .ok (.bipush 109, 2) := by decide +kernel
theorem dX5_init_350 : decode cX5_init 350 = .ok (.iconst 0, 1) := by decide +kernel
theorem dX5_init_351 : decode cX5_init 351 = .ok (.iconst 0, 1) := by decide +kernel
theorem dX5_init_352 : decode cX5_init 352 = .ok (.iconst 0, 1) := by decide +kernel
theorem dX5_init_353 : decode cX5_init 353 = .ok (.iconst 0, 1) := by decide +kernel
theorem dX5_init_354 : decode cX5_init 354 = .ok (.invokevirtual 50, 3) := by decide +kernel
theorem dX5_init_357 : decode cX5_init 357 = .ok (.aload_n 0, 1) := by decide +kernel
theorem dX5_init_358 : decode cX5_init 358 = .ok (.bipush 15, 2) := by decide +kernel
theorem dX5_init_360 : decode cX5_init 360 = .ok (.bipush 98, 2) := by decide +kernel
theorem dX5_init_362 : decode cX5_init 362 = .ok (.bipush 114, 2) := by decide +kernel
theorem dX5_init_364 : decode cX5_init 364 = .ok (.bipush 105, 2) := by decide +kernel
theorem dX5_init_366 : decode cX5_init 366 = .ok (.bipush 100, 2) := by decide +kernel
theorem dX5_init_368 : decode cX5_init 368 = .ok (.bipush 103, 2) := by decide +kernel
theorem dX5_init_370 : decode cX5_init 370 = .ok (.bipush 101, 2) := by decide +kernel
theorem dX5_init_372 : decode cX5_init 372 = .ok (.iconst 0, 1) := by decide +kernel
theorem dX5_init_373 : decode cX5_init 373 = .ok (.invokevirtual 50, 3) := by decide +kernel
theorem dX5_init_376 : decode cX5_init 376 = .ok (.aload_n 0, 1) := by decide +kernel
theorem dX5_init_377 : decode cX5_init 377 = .ok (.bipush 16, 2) := by decide +kernel
theorem dX5_init_379 : decode cX5_init 379 = .ok (.bipush 109, 2) := by decide +kernel
theorem dX5_init_381 : decode cX5_init 381 = .ok (.bipush 97, 2) := by decide +kernel
theorem dX5_init_383 : decode cX5_init 383 = .ok (.bipush 114, 2) := by decide +kernel
theorem dX5_init_385 : decode cX5_init 385 = .ok (.bipush 107, 2) := by decide +kernel
theorem dX5_init_387 : decode cX5_init 387 = .ok (.bipush 101, 2) := by decide +kernel
theorem dX5_init_389 : decode cX5_init 389 = .ok (.bipush 116, 2) := by decide +kernel
theorem dX5_init_391 : decode cX5_init 391 = .ok (.iconst 0, 1) := by decide +kernel
theorem dX5_init_392 : decode cX5_init 392 = .ok (.invokevirtual 50, 3) := by decide +kernel
theorem dX5_init_395 : decode cX5_init 395 = .ok (.aload_n 0, 1) := by decide +kernel
theorem dX5_init_396 : decode cX5_init 396 = .ok (.bipush 17, 2) := by decide +kernel
theorem dX5_init_398 : decode cX5_init 398 = .ok (.bipush 99, 2) := by decide +kernel
theorem dX5_init_400 : decode cX5_init 400 = .ok (.bipush 104, 2) := by decide +kernel
theorem dX5_init_402 : decode cX5_init 402 = .ok (.bipush 117, 2) := by decide +kernel
theorem dX5_init_404 : decode cX5_init 404 = .ok (.bipush 114, 2) := by decide +kernel
theorem dX5_init_406 : decode cX5_init 406 = .ok (.bipush 99, 2) := by decide +kernel
theorem dX5_init_408 : decode cX5_init 408 = .ok (.bipush 104, 2) := by decide +kernel
theorem dX5_init_410 : decode cX5_init 410 = .ok (.iconst 0, 1) := by decide +kernel
theorem dX5_init_411 : decode cX5_init 411 = .ok (.invokevirtual 50, 3) := by decide +kernel
theorem dX5_init_414 : decode cX5_init 414 = .ok (.aload_n 0, 1) := by decide +kernel
theorem dX5_init_415 : decode cX5_init 415 = .ok (.bipush 18, 2) := by decide +kernel
theorem dX5_init_417 : decode cX5_init 417 = .ok (.bipush 115, 2) := by decide +kernel
theorem dX5_init_419 : decode cX5_init 419 = .ok (.bipush 116, 2) := by decide +kernel
theorem dX5_init_421 : decode cX5_init 421 = .ok (.bipush 97, 2) := by decide +kernel
theorem dX5_init_423 : decode cX5_init 423 = .ok (.bipush 116, 2) := by decide +kernel
theorem dX5_init_425 : decode cX5_init 425 = .ok (.bipush 105, 2) := by decide +kernel
theorem dX5_init_427 : decode cX5_init 427 = .ok (.bipush 111, 2) := by decide +kernel
theorem dX5_init_429 : decode cX5_init 429 = .ok (.bipush 110, 2) := by decide +kernel
theorem dX5_init_431 : decode cX5_init 431 = .ok (.invokevirtual 50, 3) := by decide +kernel
theorem dX5_init_434 : decode cX5_init 434 = .ok (.aload_n 0, 1) := by decide +kernel
theorem dX5_init_435 : decode cX5_init 435 = .ok (.bipush 19, 2) := by decide +kernel
theorem dX5_init_437 : decode cX5_init 437 = .ok (.bipush 115, 2) := by decide +kernel
theorem dX5_init_439 : decode cX5_init 439 = .ok (.bipush 116, 2) := by decide +kernel
theorem dX5_init_441 : decode cX5_init 441 = .ok (.bipush 114, 2) := by decide +kernel
theorem dX5_init_443 : decode cX5_init 443 = .ok (.bipush 101, 2) := by decide +kernel
theorem dX5_init_445 : decode cX5_init 445 = .ok (.bipush 101, 2) := by decide +kernel
theorem dX5_init_447 : decode cX5_init 447 = .ok (.bipush 116, 2) := by decide +kernel
theorem dX5_init_449 : decode cX5_init 449 = .ok (.iconst 0, 1) := by decide +kernel
theorem dX5_init_450 : decode cX5_init 450 = .ok (.invokevirtual 50, 3) := by decide +kernel
theorem dX5_init_453 : decode cX5_init 453 = .ok (.aload_n 0, 1) := by decide +kernel
theorem dX5_init_454 : decode cX5_init 454 = .ok (.bipush 20, 2) := by decide +kernel
theorem dX5_init_456 : decode cX5_init 456 = .ok (.bipush 108, 2) := by decide +kernel
theorem dX5_init_458 : decode cX5_init 458 = .ok (.bipush 97, 2) := by decide +kernel
theorem dX5_init_460 : decode cX5_init 460 = .ok (.bipush 110, 2) := by decide +kernel
theorem dX5_init_462 : decode cX5_init 462 = .ok (.bipush 101, 2) := by decide +kernel
theorem dX5_init_464 : decode cX5_init 464 = .ok (.iconst 0, 1) := by decide +kernel
theorem dX5_init_465 : decode cX5_init 465 = .ok (.iconst 0, 1) := by decide +kernel
theorem dX5_init_466 : decode cX5_init 466 = .ok (.iconst 0, 1) := by decide +kernel
theorem dX5_init_467 : decode cX5_init 467 = .ok (.invokevirtual 50, 3) := by decide +kernel
theorem dX5_init_470 : decode cX5_init 470 = .ok (.aload_n 0, 1) := by decide +kernel
theorem dX5_init_471 : decode cX5_init 471 = .ok (.bipush 21, 2) := by decide +kernel
theorem dX5_init_473 : decode cX5_init 473 = .ok (.bipush 114, 2) := by decide +kernel
theorem dX5_init_475 : decode cX5_init 475 = .ok (.bipush 111, 2) := by decide +kernel
theorem dX5_init_477 : decode cX5_init 477 = .ok (.bipush 97, 2) := by decide +kernel
theorem dX5_init_479 : decode cX5_init 479 = .ok (.bipush 100, 2) := by decide +kernel
theorem dX5_init_481 : decode cX5_init 481 = .ok (.iconst 0, 1) := by decide +kernel
theorem dX5_init_482 : decode cX5_init 482 = .ok (.iconst 0, 1) := by decide +kernel
theorem dX5_init_483 : decode cX5_init 483 = .ok (.iconst 0, 1) := by decide +kernel
theorem dX5_init_484 : decode cX5_init 484 = .ok (.invokevirtual 50, 3) := by decide +kernel
theorem dX5_init_487 : decode cX5_init 487 = .ok (.aload_n 0, 1) := by decide +kernel
theorem dX5_init_488 : decode cX5_init 488 = .ok (.bipush 22, 2) := by decide +kernel
theorem dX5_init_490 : decode cX5_init 490 = .ok (.bipush 114, 2) := by decide +kernel
theorem dX5_init_492 : decode cX5_init 492 = .ok (.bipush 111, 2) := by decide +kernel
theorem dX5_init_494 : decode cX5_init 494 = .ok (.bipush 119, 2) := by decide +kernel
theorem dX5_init_496 : decode cX5_init 496 = .ok (.iconst 0, 1) := by decide +kernel
theorem dX5_init_497 : decode cX5_init 497 = .ok (.iconst 0, 1) := by decide +kernel
theorem dX5_init_498 : decode cX5_init 498 = .ok (.iconst 0, 1) := by decide +kernel
theorem dX5_init_499 : decode cX5_init 499 = .ok (.iconst 0, 1) := by decide +kernel
theorem dX5_init_500 : decode cX5_init 500 = .ok (.invokevirtual 50, 3) := by decide +kernel
theorem dX5_init_503 : decode cX5_init 503 = .ok (.aload_n 0, 1) := by decide +kernel
theorem dX5_init_504 : decode cX5_init 504 = .ok (.bipush 23, 2) := by decide +kernel
theorem dX5_init_506 : decode cX5_init 506 = .ok (.bipush 104, 2) := by decide +kernel
theorem dX5_init_508 : decode cX5_init 508 = .ok (.bipush 105, 2) := by decide +kernel
theorem dX5_init_510 : decode cX5_init 510 = .ok (.bipush 108, 2) := by decide +kernel
theorem dX5_init_512 : decode cX5_init 512 = .ok (.bipush 108, 2) := by decide +kernel
theorem dX5_init_514 : decode cX5_init 514 = .ok (.iconst 0, 1) := by decide +kernel
theorem dX5_init_515 : decode cX5_init 515 = .ok (.iconst 0, 1) := by decide +kernel
theorem dX5_init_516 : decode cX5_init 516 = .ok (.iconst 0, 1) := by decide +kernel
theorem dX5_init_517 : decode cX5_init 517 = .ok (.invokevirtual 50, 3) := by decide +kernel
theorem dX5_init_520 : decode cX5_init 520 = .ok (.iconst 0, 1) := by decide +kernel
theorem dX5_init_521 : decode cX5_init 521 = .ok (.istore_n 1, 1) := by decide +kernel
theorem dX5_init_522 : decode cX5_init 522 = .ok (.iload_n 1, 1) := by decide +kernel
theorem dX5_init_523 : decode cX5_init 523 = .ok (.iconst 4, 1) := by decide +kernel
theorem dX5_init_524 : decode cX5_init 524 = .ok (.if_icmp .ge 16, 3) := by decide +kernel
theorem dX5_init_527 : decode cX5_init 527 = .ok (.aload_n 0, 1) := by decide +kernel
theorem dX5_init_528 : decode cX5_init 528 = .ok (.getfield 13, 3) := by decide +kernel
theorem dX5_init_531 : decode cX5_init 531 = .ok (.iload_n 1, 1) := by decide +kernel
theorem dX5_init_532 : decode cX5_init 532 = .ok (.iconst 1, 1) := by decide +kernel
theorem dX5_init_533 : decode cX5_init 533 = .ok (.iastore, 1) := by decide +kernel
theorem dX5_init_534 : decode cX5_init 534 = .ok (.iinc 1 1, 3) := by decide +kernel
theorem dX5_init_537 : decode cX5_init 537 = .ok (.goto (-15), 3) := by decide +kernel
theorem dX5_init_540 : decode cX5_init 540 = .ok (.return_, 1) := by decide +kernel
theorem dX5_spell_0 : decode cX5_spell 0 = .ok (.aload_n 0, 1) := by decide +kernel
theorem dX5_spell_1 : decode cX5_spell 1 = .ok (.getfield 7, 3) := by decide +kernel
theorem dX5_spell_4 : decode cX5_spell 4 = .ok (.bipush 8, 2) := by decide +kernel
theorem dX5_spell_6 : decode cX5_spell 6 = .ok (.iload_n 1, 1) := by decide +kernel
theorem dX5_spell_7 : decode cX5_spell 7 = .ok (.imul, 1) := by decide +kernel
theorem dX5_spell_8 : decode cX5_spell 8 = .ok (.iload_n 2, 1) := by decide +kernel
theorem dX5_spell_9 : decode cX5_spell 9 = .ok (.iastore, 1) := by decide +kernel
theorem dX5_spell_10 : decode cX5_spell 10 = .ok (.aload_n 0, 1) := by decide +kernel
theorem dX5_spell_11 : decode cX5_spell 11 = .ok (.getfield 7, 3) := by decide +kernel
theorem dX5_spell_14 : decode cX5_spell 14 = .ok (.bipush 8, 2) := by decide +kernel
theorem dX5_spell_16 : decode cX5_spell 16 = .ok (.iload_n 1, 1) := by decide +kernel
theorem dX5_spell_17 : decode cX5_spell 17 = .ok (.imul, 1) := by decide +kernel
theorem dX5_spell_18 : decode cX5_spell 18 = .ok (.iconst 1, 1) := by decide +kernel
theorem dX5_spell_19 : decode cX5_spell 19 = .ok (.iadd, 1) := by decide +kernel
theorem dX5_spell_20 : decode cX5_spell 20 = .ok (.iload_n 3, 1) := by decide +kernel
theorem dX5_spell_21 : decode cX5_spell 21 = .ok (.iastore, 1) := by decide +kernel
theorem dX5_spell_22 : decode cX5_spell 22 = .ok (.aload_n 0, 1) := by decide +kernel
theorem dX5_spell_23 : decode cX5_spell 23 = .ok (.getfield 7, 3) := by decide +kernel
theorem dX5_spell_26 : decode cX5_spell 26 = .ok (.bipush 8, 2) := by decide +kernel
theorem dX5_spell_28 : decode cX5_spell 28 = .ok (.iload_n 1, 1) := by decide +kernel
theorem dX5_spell_29 : decode cX5_spell 29 = .ok (.imul, 1) := by decide +kernel
theorem dX5_spell_30 : decode cX5_spell 30 = .ok (.iconst 2, 1) := by decide +kernel
theorem dX5_spell_31 : decode cX5_spell 31 = .ok (.iadd, 1) := by decide +kernel
theorem dX5_spell_32 : decode cX5_spell 32 = .ok (.iload 4, 2) := by decide +kernel
theorem dX5_spell_34 : decode cX5_spell 34 = .ok (.iastore, 1) := by decide +kernel
theorem dX5_spell_35 : decode cX5_spell 35 = .ok (.aload_n 0, 1) := by decide +kernel
theorem dX5_spell_36 : decode cX5_spell 36 = .ok (.getfield 7, 3) := by decide +kernel
theorem dX5_spell_39 : decode cX5_spell 39 = .ok (.bipush 8, 2) := by decide +kernel
theorem dX5_spell_41 : decode cX5_spell 41 = .ok (.iload_n 1, 1) := by decide +kernel
theorem dX5_spell_42 : decode cX5_spell 42 = .ok (.imul, 1) := by decide +kernel
theorem dX5_spell_43 : decode cX5_spell 43 = .ok (.iconst 3, 1) := by decide +kernel
theorem dX5_spell_44 : decode cX5_spell 44 = .ok (.iadd, 1) := by decide +kernel
theorem dX5_spell_45 : decode cX5_spell 45 = .ok (.iload 5, 2) := by decide +kernel
theorem dX5_spell_47 : decode cX5_spell 47 = .ok (.iastore, 1) := by decide +kernel
theorem dX5_spell_48 : decode cX5_spell 48 = .ok (.aload_n 0, 1) := by decide +kernel
theorem dX5_spell_49 : decode cX5_spell 49 = .ok (.getfield 7, 3) := by decide +kernel
theorem dX5_spell_52 : decode cX5_spell 52 = .ok (.bipush 8, 2) := by decide +kernel
theorem dX5_spell_54 : decode cX5_spell 54 = .ok (.iload_n 1, 1) := by decide +kernel
theorem dX5_spell_55 : decode cX5_spell 55 = .ok (.imul, 1) := by decide +kernel
theorem dX5_spell_56 : decode cX5_spell 56 = .ok (.iconst 4, 1) := by decide +kernel
theorem dX5_spell_57 : decode cX5_spell 57 = .ok (.iadd, 1) := by decide +kernel
theorem dX5_spell_58 : decode cX5_spell 58 = .ok (.iload 6, 2) := by decide +kernel
theorem dX5_spell_60 : decode cX5_spell 60 = .ok (.iastore, 1) := by decide +kernel
theorem dX5_spell_61 : decode cX5_spell 61 = .ok (.aload_n 0, 1) := by decide +kernel
theorem dX5_spell_62 : decode cX5_spell 62 = .ok (.getfield 7, 3) := by decide +kernel
theorem dX5_spell_65 : decode cX5_spell 65 = .ok (.bipush 8, 2) := by decide +kernel
theorem dX5_spell_67 : decode cX5_spell 67 = .ok (.iload_n 1, 1) := by decide +kernel
theorem dX5_spell_68 : decode cX5_spell 68 = .ok (.imul, 1) := by decide +kernel
theorem dX5_spell_69 : decode cX5_spell 69 = .ok (.iconst 5, 1) := by decide +kernel
theorem dX5_spell_70 : decode cX5_spell 70 = .ok (.iadd, 1) := by decide +kernel
theorem dX5_spell_71 : decode cX5_spell 71 = .ok (.iload 7, 2) := by decide +kernel
theorem dX5_spell_73 : decode cX5_spell 73 = .ok (.iastore, 1) := by decide +kernel
theorem dX5_spell_74 : decode cX5_spell 74 = .ok (.aload_n 0, 1) := by decide +kernel
theorem dX5_spell_75 : decode cX5_spell 75 = .ok (.getfield 7, 3) := by decide +kernel
theorem dX5_spell_78 : decode cX5_spell 78 = .ok (.bipush 8, 2) := by decide +kernel
theorem dX5_spell_80 : decode cX5_spell 80 = .ok (.iload_n 1, 1) := by decide +kernel
theorem dX5_spell_81 : decode cX5_spell 81 = .ok (.imul, 1) := by decide +kernel
theorem dX5_spell_82 : decode cX5_spell 82 = .ok (.bipush 6, 2) := by decide +kernel
theorem dX5_spell_84 : decode cX5_spell 84 = .ok (.iadd, 1) := by decide +kernel
theorem dX5_spell_85 : decode cX5_spell 85 = .ok (.iload 8, 2) := by decide +kernel
theorem dX5_spell_87 : decode cX5_spell 87 = .ok (.iastore, 1) := by decide +kernel
theorem dX5_spell_88 : decode cX5_spell 88 = .ok (.return_, 1) := by decide +kernel
theorem dX5_thrown_0 : decode cX5_thrown 0 = .ok (.aload_n 0, 1) := by decide +kernel
theorem dX5_thrown_1 : decode cX5_thrown 1 = .ok (.getfield 54, 3) := by decide +kernel
theorem dX5_thrown_4 : decode cX5_thrown 4 = .ok (.ireturn, 1) := by decide +kernel
theorem dX5_in_0 : decode cX5_in 0 = .ok (.iload_n 0, 1) := by decide +kernel
theorem dX5_in_1 : decode cX5_in 1 = .ok (.iload_n 1, 1) := by decide +kernel
theorem dX5_in_2 : decode cX5_in 2 = .ok (.if_icmp .lt 12, 3) := by decide +kernel
theorem dX5_in_5 : decode cX5_in 5 = .ok (.iload_n 0, 1) := by decide +kernel
theorem dX5_in_6 : decode cX5_in 6 = .ok (.iload_n 2, 1) := by decide +kernel
theorem dX5_in_7 : decode cX5_in 7 = .ok (.if_icmp .gt 7, 3) := by decide +kernel
theorem dX5_in_10 : decode cX5_in 10 = .ok (.iconst 1, 1) := by decide +kernel
theorem dX5_in_11 : decode cX5_in 11 = .ok (.goto 4, 3) := by decide +kernel
theorem dX5_in_14 : decode cX5_in 14 = .ok (.iconst 0, 1) := by decide +kernel
theorem dX5_in_15 : decode cX5_in 15 = .ok (.ireturn, 1) := by decide +kernel
theorem dX5_goes_0 : decode cX5_goes 0 = .ok (.aload_n 0, 1) := by decide +kernel
theorem dX5_goes_1 : decode cX5_goes 1 = .ok (.iload_n 1, 1) := by decide +kernel
theorem dX5_goes_2 : decode cX5_goes 2 = .ok (.ifCond .ne 7, 3) := by decide +kernel
theorem dX5_goes_5 : decode cX5_goes 5 = .ok (.iconst 1, 1) := by decide +kernel
theorem dX5_goes_6 : decode cX5_goes 6 = .ok (.goto 20, 3) := by decide +kernel
theorem dX5_goes_9 : decode cX5_goes 9 = .ok (.iload_n 2, 1) := by decide +kernel
theorem dX5_goes_10 : decode cX5_goes 10 = .ok (.ifCond .ne 7, 3) := by decide +kernel
theorem dX5_goes_13 : decode cX5_goes 13 = .ok (.iconst 2, 1) := by decide +kernel
theorem dX5_goes_14 : decode cX5_goes 14 = .ok (.goto 12, 3) := by decide +kernel
theorem dX5_goes_17 : decode cX5_goes 17 = .ok (.iload_n 3, 1) := by decide +kernel
theorem dX5_goes_18 : decode cX5_goes 18 = .ok (.ifCond .eq 7, 3) := by decide +kernel
theorem dX5_goes_21 : decode cX5_goes 21 = .ok (.iconst 0, 1) := by decide +kernel
theorem dX5_goes_22 : decode cX5_goes 22 = .ok (.goto 4, 3) := by decide +kernel
theorem dX5_goes_25 : decode cX5_goes 25 = .ok (.iconst 3, 1) := by decide +kernel
theorem dX5_goes_26 : decode cX5_goes 26 = .ok (.putfield 54, 3) := by decide +kernel
theorem dX5_goes_29 : decode cX5_goes 29 = .ok (.aload_n 0, 1) := by decide +kernel
theorem dX5_goes_30 : decode cX5_goes 30 = .ok (.getfield 54, 3) := by decide +kernel
theorem dX5_goes_33 : decode cX5_goes 33 = .ok (.ifCond .ne 7, 3) := by decide +kernel
theorem dX5_goes_36 : decode cX5_goes 36 = .ok (.iconst 1, 1) := by decide +kernel
theorem dX5_goes_37 : decode cX5_goes 37 = .ok (.goto 4, 3) := by decide +kernel
theorem dX5_goes_40 : decode cX5_goes 40 = .ok (.iconst 0, 1) := by decide +kernel
theorem dX5_goes_41 : decode cX5_goes 41 = .ok (.ireturn, 1) := by decide +kernel
set_option maxRecDepth 20000 in
theorem ggX5_isStreet_X5_in : GoodIn wsX5_isStreet wsX5_in := goodIn_r _ [5] (by decide +kernel) (by decide +kernel)
set_option maxRecDepth 20000 in
theorem gX5_isStreet_X5_in : GoodIn wsX5_isStreet (va_wsS RX5 61 yX5_in wsX5_in) := goodIn_app (goodIn_of _ (by decide +kernel)) ggX5_isStreet_X5_in
theorem dX5_isStreet_0 : decode cX5_isStreet 0 = .ok (.iload_n 1, 1) := by decide +kernel
theorem dX5_isStreet_1 : decode cX5_isStreet 1 = .ok (.iconst 0, 1) := by decide +kernel
theorem dX5_isStreet_2 : decode cX5_isStreet 2 = .ok (.aload_n 0, 1) := by decide +kernel
theorem dX5_isStreet_3 : decode cX5_isStreet 3 = .ok (.getfield 58, 3) := by decide +kernel
theorem dX5_isStreet_6 : decode cX5_isStreet 6 = .ok (.iconst 1, 1) := by decide +kernel
theorem dX5_isStreet_7 : decode cX5_isStreet 7 = .ok (.isub, 1) := by decide +kernel
theorem dX5_isStreet_8 : decode cX5_isStreet 8 = .ok (.invokestatic 61, 3) := by decide +kernel
theorem dX5_isStreet_11 : decode cX5_isStreet 11 = .ok (.ireturn, 1) := by decide +kernel
set_option maxRecDepth 20000 in
theorem ggX5_isSquare_X5_in : GoodIn wsX5_isSquare wsX5_in := goodIn_r _ [4] (by decide +kernel) (by decide +kernel)
set_option maxRecDepth 20000 in
theorem gX5_isSquare_X5_in : GoodIn wsX5_isSquare (va_wsS RX5 61 yX5_in wsX5_in) := goodIn_app (goodIn_of _ (by decide +kernel)) ggX5_isSquare_X5_in
theorem dX5_isSquare_0 : decode cX5_isSquare 0 = .ok (.iload_n 0, 1) := by decide +kernel
theorem dX5_isSquare_1 : decode cX5_isSquare 1 = .ok (.iconst 0, 1) := by decide +kernel
theorem dX5_isSquare_2 : decode cX5_isSquare 2 = .ok (.bipush 11, 2) := by decide +kernel
theorem dX5_isSquare_4 : decode cX5_isSquare 4 = .ok (.invokestatic 61, 3) := by decide +kernel
theorem dX5_isSquare_7 : decode cX5_isSquare 7 = .ok (.ifCond .eq 17, 3) := by decide +kernel
theorem dX5_isSquare_10 : decode cX5_isSquare 10 = .ok (.iload_n 1, 1) := by decide +kernel
theorem dX5_isSquare_11 : decode cX5_isSquare 11 = .ok (.iconst 0, 1) := by decide +kernel
theorem dX5_isSquare_12 : decode cX5_isSquare 12 = .ok (.bipush 11, 2) := by decide +kernel
theorem dX5_isSquare_14 : decode cX5_isSquare 14 = .ok (.invokestatic 61, 3) := by decide +kernel
theorem dX5_isSquare_17 : decode cX5_isSquare 17 = .ok (.ifCond .eq 7, 3) := by decide +kernel
theorem dX5_isSquare_20 : decode cX5_isSquare 20 = .ok (.iconst 1, 1) := by decide +kernel
theorem dX5_isSquare_21 : decode cX5_isSquare 21 = .ok (.goto 4, 3) := by decide +kernel
theorem dX5_isSquare_24 : decode cX5_isSquare 24 = .ok (.iconst 0, 1) := by decide +kernel
theorem dX5_isSquare_25 : decode cX5_isSquare 25 = .ok (.ireturn, 1) := by decide +kernel
set_option maxRecDepth 20000 in
theorem ggX5_isName_X5_in : GoodIn wsX5_isName wsX5_in := goodIn_r _ [4] (by decide +kernel) (by decide +kernel)
set_option maxRecDepth 20000 in
theorem gX5_isName_X5_in : GoodIn wsX5_isName (va_wsS RX5 61 yX5_in wsX5_in) := goodIn_app (goodIn_of _ (by decide +kernel)) ggX5_isName_X5_in
theorem dX5_isName_0 : decode cX5_isName 0 = .ok (.iload_n 0, 1) := by decide +kernel
theorem dX5_isName_1 : decode cX5_isName 1 = .ok (.iconst 1, 1) := by decide +kernel
theorem dX5_isName_2 : decode cX5_isName 2 = .ok (.iconst 4, 1) := by decide +kernel
theorem dX5_isName_3 : decode cX5_isName 3 = .ok (.invokestatic 61, 3) := by decide +kernel
theorem dX5_isName_6 : decode cX5_isName 6 = .ok (.istore_n 2, 1) := by decide +kernel
theorem dX5_isName_7 : decode cX5_isName 7 = .ok (.iconst 0, 1) := by decide +kernel
theorem dX5_isName_8 : decode cX5_isName 8 = .ok (.istore_n 3, 1) := by decide +kernel
theorem dX5_isName_9 : decode cX5_isName 9 = .ok (.iload_n 3, 1) := by decide +kernel
theorem dX5_isName_10 : decode cX5_isName 10 = .ok (.iload_n 0, 1) := by decide +kernel
theorem dX5_isName_11 : decode cX5_isName 11 = .ok (.if_icmp .ge 34, 3) := by decide +kernel
theorem dX5_isName_14 : decode cX5_isName 14 = .ok (.iload_n 2, 1) := by decide +kernel
theorem dX5_isName_15 : decode cX5_isName 15 = .ok (.ifCond .eq 30, 3) := by decide +kernel
theorem dX5_isName_18 : decode cX5_isName 18 = .ok (.iload_n 1, 1) := by decide +kernel
theorem dX5_isName_19 : decode cX5_isName 19 = .ok (.bipush 8, 2) := by decide +kernel
theorem dX5_isName_21 : decode cX5_isName 21 = .ok (.iload_n 3, 1) := by decide +kernel
theorem dX5_isName_22 : decode cX5_isName 22 = .ok (.imul, 1) := by decide +kernel
theorem dX5_isName_23 : decode cX5_isName 23 = .ok (.ishr, 1) := by decide +kernel
theorem dX5_isName_24 : decode cX5_isName 24 = .ok (.sipush 255, 3) := by decide +kernel
theorem dX5_isName_27 : decode cX5_isName 27 = .ok (.iand, 1) := by decide +kernel
theorem dX5_isName_28 : decode cX5_isName 28 = .ok (.bipush 24, 2) := by decide +kernel
theorem dX5_isName_30 : decode cX5_isName 30 = .ok (.if_icmp .ge 7, 3) := by decide +kernel
theorem dX5_isName_33 : decode cX5_isName 33 = .ok (.iconst 1, 1) := by decide +kernel
theorem dX5_isName_34 : decode cX5_isName 34 = .ok (.goto 4, 3) := by decide +kernel
theorem dX5_isName_37 : decode cX5_isName 37 = .ok (.iconst 0, 1) := by decide +kernel
theorem dX5_isName_38 : decode cX5_isName 38 = .ok (.istore_n 2, 1) := by decide +kernel
theorem dX5_isName_39 : decode cX5_isName 39 = .ok (.iinc 3 1, 3) := by decide +kernel
theorem dX5_isName_42 : decode cX5_isName 42 = .ok (.goto (-33), 3) := by decide +kernel
theorem dX5_isName_45 : decode cX5_isName 45 = .ok (.iload_n 2, 1) := by decide +kernel
theorem dX5_isName_46 : decode cX5_isName 46 = .ok (.ireturn, 1) := by decide +kernel
theorem dX5_gives_0 : decode cX5_gives 0 = .ok (.aload_n 0, 1) := by decide +kernel
theorem dX5_gives_1 : decode cX5_gives 1 = .ok (.getfield 19, 3) := by decide +kernel
theorem dX5_gives_4 : decode cX5_gives 4 = .ok (.iload_n 1, 1) := by decide +kernel
theorem dX5_gives_5 : decode cX5_gives 5 = .ok (.iload_n 2, 1) := by decide +kernel
theorem dX5_gives_6 : decode cX5_gives 6 = .ok (.iastore, 1) := by decide +kernel
theorem dX5_gives_7 : decode cX5_gives 7 = .ok (.iconst 0, 1) := by decide +kernel
theorem dX5_gives_8 : decode cX5_gives 8 = .ok (.istore 4, 2) := by decide +kernel
theorem dX5_gives_10 : decode cX5_gives 10 = .ok (.iload 4, 2) := by decide +kernel
theorem dX5_gives_12 : decode cX5_gives 12 = .ok (.iload_n 2, 1) := by decide +kernel
theorem dX5_gives_13 : decode cX5_gives 13 = .ok (.if_icmp .ge 31, 3) := by decide +kernel
theorem dX5_gives_16 : decode cX5_gives 16 = .ok (.aload_n 0, 1) := by decide +kernel
theorem dX5_gives_17 : decode cX5_gives 17 = .ok (.getfield 16, 3) := by decide +kernel
theorem dX5_gives_20 : decode cX5_gives 20 = .ok (.iconst 4, 1) := by decide +kernel
theorem dX5_gives_21 : decode cX5_gives 21 = .ok (.iload_n 1, 1) := by decide +kernel
theorem dX5_gives_22 : decode cX5_gives 22 = .ok (.imul, 1) := by decide +kernel
theorem dX5_gives_23 : decode cX5_gives 23 = .ok (.iload 4, 2) := by decide +kernel
theorem dX5_gives_25 : decode cX5_gives 25 = .ok (.iadd, 1) := by decide +kernel
theorem dX5_gives_26 : decode cX5_gives 26 = .ok (.iload_n 3, 1) := by decide +kernel
theorem dX5_gives_27 : decode cX5_gives 27 = .ok (.bipush 8, 2) := by decide +kernel
theorem dX5_gives_29 : decode cX5_gives 29 = .ok (.iload 4, 2) := by decide +kernel
theorem dX5_gives_31 : decode cX5_gives 31 = .ok (.imul, 1) := by decide +kernel
theorem dX5_gives_32 : decode cX5_gives 32 = .ok (.ishr, 1) := by decide +kernel
theorem dX5_gives_33 : decode cX5_gives 33 = .ok (.sipush 255, 3) := by decide +kernel
theorem dX5_gives_36 : decode cX5_gives 36 = .ok (.iand, 1) := by decide +kernel
theorem dX5_gives_37 : decode cX5_gives 37 = .ok (.iastore, 1) := by decide +kernel
theorem dX5_gives_38 : decode cX5_gives 38 = .ok (.iinc 4 1, 3) := by decide +kernel
theorem dX5_gives_41 : decode cX5_gives 41 = .ok (.goto (-31), 3) := by decide +kernel
theorem dX5_gives_44 : decode cX5_gives 44 = .ok (.return_, 1) := by decide +kernel
theorem dX5_compareWords_0 : decode cX5_compareWords 0 = .ok (.iconst 0, 1) := by decide +kernel
theorem dX5_compareWords_1 : decode cX5_compareWords 1 = .ok (.istore_n 3, 1) := by decide +kernel
theorem dX5_compareWords_2 : decode cX5_compareWords 2 = .ok (.iconst 0, 1) := by decide +kernel
theorem dX5_compareWords_3 : decode cX5_compareWords 3 = .ok (.istore 4, 2) := by decide +kernel
theorem dX5_compareWords_5 : decode cX5_compareWords 5 = .ok (.iload 4, 2) := by decide +kernel
theorem dX5_compareWords_7 : decode cX5_compareWords 7 = .ok (.bipush 8, 2) := by decide +kernel
theorem dX5_compareWords_9 : decode cX5_compareWords 9 = .ok (.if_icmp .ge 39, 3) := by decide +kernel
theorem dX5_compareWords_12 : decode cX5_compareWords 12 = .ok (.iload_n 3, 1) := by decide +kernel
theorem dX5_compareWords_13 : decode cX5_compareWords 13 = .ok (.ifCond .ne 35, 3) := by decide +kernel
theorem dX5_compareWords_16 : decode cX5_compareWords 16 = .ok (.aload_n 0, 1) := by decide +kernel
theorem dX5_compareWords_17 : decode cX5_compareWords 17 = .ok (.getfield 7, 3) := by decide +kernel
theorem dX5_compareWords_20 : decode cX5_compareWords 20 = .ok (.bipush 8, 2) := by decide +kernel
theorem dX5_compareWords_22 : decode cX5_compareWords 22 = .ok (.iload_n 1, 1) := by decide +kernel
theorem dX5_compareWords_23 : decode cX5_compareWords 23 = .ok (.imul, 1) := by decide +kernel
theorem dX5_compareWords_24 : decode cX5_compareWords 24 = .ok (.iload 4, 2) := by decide +kernel
theorem dX5_compareWords_26 : decode cX5_compareWords 26 = .ok (.iadd, 1) := by decide +kernel
theorem dX5_compareWords_27 : decode cX5_compareWords 27 = .ok (.iaload, 1) := by decide +kernel
theorem dX5_compareWords_28 : decode cX5_compareWords 28 = .ok (.aload_n 0, 1) := by decide +kernel
theorem dX5_compareWords_29 : decode cX5_compareWords 29 = .ok (.getfield 7, 3) := by decide +kernel
theorem dX5_compareWords_32 : decode cX5_compareWords 32 = .ok (.bipush 8, 2) := by decide +kernel
theorem dX5_compareWords_34 : decode cX5_compareWords 34 = .ok (.iload_n 2, 1) := by decide +kernel
theorem dX5_compareWords_35 : decode cX5_compareWords 35 = .ok (.imul, 1) := by decide +kernel
theorem dX5_compareWords_36 : decode cX5_compareWords 36 = .ok (.iload 4, 2) := by decide +kernel
theorem dX5_compareWords_38 : decode cX5_compareWords 38 = .ok (.iadd, 1) := by decide +kernel
theorem dX5_compareWords_39 : decode cX5_compareWords 39 = .ok (.iaload, 1) := by decide +kernel
theorem dX5_compareWords_40 : decode cX5_compareWords 40 = .ok (.isub, 1) := by decide +kernel
theorem dX5_compareWords_41 : decode cX5_compareWords 41 = .ok (.istore_n 3, 1) := by decide +kernel
theorem dX5_compareWords_42 : decode cX5_compareWords 42 = .ok (.iinc 4 1, 3) := by decide +kernel
theorem dX5_compareWords_45 : decode cX5_compareWords 45 = .ok (.goto (-40), 3) := by decide +kernel
theorem dX5_compareWords_48 : decode cX5_compareWords 48 = .ok (.iload_n 3, 1) := by decide +kernel
theorem dX5_compareWords_49 : decode cX5_compareWords 49 = .ok (.ireturn, 1) := by decide +kernel
theorem dX5_keyOf_0 : decode cX5_keyOf 0 = .ok (.iconst 0, 1) := by decide +kernel
theorem dX5_keyOf_1 : decode cX5_keyOf 1 = .ok (.istore_n 3, 1) := by decide +kernel
theorem dX5_keyOf_2 : decode cX5_keyOf 2 = .ok (.iconst 0, 1) := by decide +kernel
theorem dX5_keyOf_3 : decode cX5_keyOf 3 = .ok (.istore 4, 2) := by decide +kernel
theorem dX5_keyOf_5 : decode cX5_keyOf 5 = .ok (.iload 4, 2) := by decide +kernel
theorem dX5_keyOf_7 : decode cX5_keyOf 7 = .ok (.iconst 3, 1) := by decide +kernel
theorem dX5_keyOf_8 : decode cX5_keyOf 8 = .ok (.if_icmp .ge 67, 3) := by decide +kernel
theorem dX5_keyOf_11 : decode cX5_keyOf 11 = .ok (.iconst 0, 1) := by decide +kernel
theorem dX5_keyOf_12 : decode cX5_keyOf 12 = .ok (.istore 5, 2) := by decide +kernel
theorem dX5_keyOf_14 : decode cX5_keyOf 14 = .ok (.iload 5, 2) := by decide +kernel
theorem dX5_keyOf_16 : decode cX5_keyOf 16 = .ok (.aload_n 0, 1) := by decide +kernel
theorem dX5_keyOf_17 : decode cX5_keyOf 17 = .ok (.getfield 19, 3) := by decide +kernel
theorem dX5_keyOf_20 : decode cX5_keyOf 20 = .ok (.iload_n 1, 1) := by decide +kernel
theorem dX5_keyOf_21 : decode cX5_keyOf 21 = .ok (.iaload, 1) := by decide +kernel
theorem dX5_keyOf_22 : decode cX5_keyOf 22 = .ok (.if_icmp .ge 47, 3) := by decide +kernel
theorem dX5_keyOf_25 : decode cX5_keyOf 25 = .ok (.aload_n 0, 1) := by decide +kernel
theorem dX5_keyOf_26 : decode cX5_keyOf 26 = .ok (.getfield 13, 3) := by decide +kernel
theorem dX5_keyOf_29 : decode cX5_keyOf 29 = .ok (.aload_n 0, 1) := by decide +kernel
theorem dX5_keyOf_30 : decode cX5_keyOf 30 = .ok (.getfield 16, 3) := by decide +kernel
theorem dX5_keyOf_33 : decode cX5_keyOf 33 = .ok (.iconst 4, 1) := by decide +kernel
theorem dX5_keyOf_34 : decode cX5_keyOf 34 = .ok (.iload_n 1, 1) := by decide +kernel
theorem dX5_keyOf_35 : decode cX5_keyOf 35 = .ok (.imul, 1) := by decide +kernel
theorem dX5_keyOf_36 : decode cX5_keyOf 36 = .ok (.iload 5, 2) := by decide +kernel
theorem dX5_keyOf_38 : decode cX5_keyOf 38 = .ok (.iadd, 1) := by decide +kernel
theorem dX5_keyOf_39 : decode cX5_keyOf 39 = .ok (.iaload, 1) := by decide +kernel
theorem dX5_keyOf_40 : decode cX5_keyOf 40 = .ok (.iaload, 1) := by decide +kernel
theorem dX5_keyOf_41 : decode cX5_keyOf 41 = .ok (.iload 4, 2) := by decide +kernel
theorem dX5_keyOf_43 : decode cX5_keyOf 43 = .ok (.if_icmp .ne 20, 3) := by decide +kernel
theorem dX5_keyOf_46 : decode cX5_keyOf 46 = .ok (.aload_n 2, 1) := by decide +kernel
theorem dX5_keyOf_47 : decode cX5_keyOf 47 = .ok (.iload_n 3, 1) := by decide +kernel
theorem dX5_keyOf_48 : decode cX5_keyOf 48 = .ok (.aload_n 0, 1) := by decide +kernel
theorem dX5_keyOf_49 : decode cX5_keyOf 49 = .ok (.getfield 16, 3) := by decide +kernel
theorem dX5_keyOf_52 : decode cX5_keyOf 52 = .ok (.iconst 4, 1) := by decide +kernel
theorem dX5_keyOf_53 : decode cX5_keyOf 53 = .ok (.iload_n 1, 1) := by decide +kernel
theorem dX5_keyOf_54 : decode cX5_keyOf 54 = .ok (.imul, 1) := by decide +kernel
theorem dX5_keyOf_55 : decode cX5_keyOf 55 = .ok (.iload 5, 2) := by decide +kernel
theorem dX5_keyOf_57 : decode cX5_keyOf 57 = .ok (.iadd, 1) := by decide +kernel
theorem dX5_keyOf_58 : decode cX5_keyOf 58 = .ok (.iaload, 1) := by decide +kernel
theorem dX5_keyOf_59 : decode cX5_keyOf 59 = .ok (.iastore, 1) := by decide +kernel
theorem dX5_keyOf_60 : decode cX5_keyOf 60 = .ok (.iinc 3 1, 3) := by decide +kernel
theorem dX5_keyOf_63 : decode cX5_keyOf 63 = .ok (.iinc 5 1, 3) := by decide +kernel
theorem dX5_keyOf_66 : decode cX5_keyOf 66 = .ok (.goto (-52), 3) := by decide +kernel
theorem dX5_keyOf_69 : decode cX5_keyOf 69 = .ok (.iinc 4 2, 3) := by decide +kernel
theorem dX5_keyOf_72 : decode cX5_keyOf 72 = .ok (.goto (-67), 3) := by decide +kernel
theorem dX5_keyOf_75 : decode cX5_keyOf 75 = .ok (.iconst 0, 1) := by decide +kernel
theorem dX5_keyOf_76 : decode cX5_keyOf 76 = .ok (.istore 4, 2) := by decide +kernel
theorem dX5_keyOf_78 : decode cX5_keyOf 78 = .ok (.iload 4, 2) := by decide +kernel
theorem dX5_keyOf_80 : decode cX5_keyOf 80 = .ok (.aload_n 0, 1) := by decide +kernel
theorem dX5_keyOf_81 : decode cX5_keyOf 81 = .ok (.getfield 19, 3) := by decide +kernel
theorem dX5_keyOf_84 : decode cX5_keyOf 84 = .ok (.iload_n 1, 1) := by decide +kernel
theorem dX5_keyOf_85 : decode cX5_keyOf 85 = .ok (.iaload, 1) := by decide +kernel
theorem dX5_keyOf_86 : decode cX5_keyOf 86 = .ok (.if_icmp .ge 28, 3) := by decide +kernel
theorem dX5_keyOf_89 : decode cX5_keyOf 89 = .ok (.iload_n 3, 1) := by decide +kernel
theorem dX5_keyOf_90 : decode cX5_keyOf 90 = .ok (.ifCond .ne 24, 3) := by decide +kernel
theorem dX5_keyOf_93 : decode cX5_keyOf 93 = .ok (.aload_n 2, 1) := by decide +kernel
theorem dX5_keyOf_94 : decode cX5_keyOf 94 = .ok (.iload 4, 2) := by decide +kernel
theorem dX5_keyOf_96 : decode cX5_keyOf 96 = .ok (.aload_n 0, 1) := by decide +kernel
theorem dX5_keyOf_97 : decode cX5_keyOf 97 = .ok (.getfield 16, 3) := by decide +kernel
theorem dX5_keyOf_100 : decode cX5_keyOf 100 = .ok (.iconst 4, 1) := by decide +kernel
theorem dX5_keyOf_101 : decode cX5_keyOf 101 = .ok (.iload_n 1, 1) := by decide +kernel
theorem dX5_keyOf_102 : decode cX5_keyOf 102 = .ok (.imul, 1) := by decide +kernel
theorem dX5_keyOf_103 : decode cX5_keyOf 103 = .ok (.iload 4, 2) := by decide +kernel
theorem dX5_keyOf_105 : decode cX5_keyOf 105 = .ok (.iadd, 1) := by decide +kernel
theorem dX5_keyOf_106 : decode cX5_keyOf 106 = .ok (.iaload, 1) := by decide +kernel
theorem dX5_keyOf_107 : decode cX5_keyOf 107 = .ok (.iastore, 1) := by decide +kernel
theorem dX5_keyOf_108 : decode cX5_keyOf 108 = .ok (.iinc 4 1, 3) := by decide +kernel
theorem dX5_keyOf_111 : decode cX5_keyOf 111 = .ok (.goto (-33), 3) := by decide +kernel
theorem dX5_keyOf_114 : decode cX5_keyOf 114 = .ok (.iload_n 3, 1) := by decide +kernel
theorem dX5_keyOf_115 : decode cX5_keyOf 115 = .ok (.ifCond .ne 12, 3) := by decide +kernel
theorem dX5_keyOf_118 : decode cX5_keyOf 118 = .ok (.aload_n 0, 1) := by decide +kernel
theorem dX5_keyOf_119 : decode cX5_keyOf 119 = .ok (.getfield 19, 3) := by decide +kernel
theorem dX5_keyOf_122 : decode cX5_keyOf 122 = .ok (.iload_n 1, 1) := by decide +kernel
theorem dX5_keyOf_123 : decode cX5_keyOf 123 = .ok (.iaload, 1) := by decide +kernel
theorem dX5_keyOf_124 : decode cX5_keyOf 124 = .ok (.goto 4, 3) := by decide +kernel
theorem dX5_keyOf_127 : decode cX5_keyOf 127 = .ok (.iload_n 3, 1) := by decide +kernel
theorem dX5_keyOf_128 : decode cX5_keyOf 128 = .ok (.ireturn, 1) := by decide +kernel
set_option maxRecDepth 20000 in
theorem ggX5_compareOf_X5_keyOf : GoodIn wsX5_compareOf wsX5_keyOf := goodIn_r _ [7, 8, 9, 10, 16, 17, 18, 19, 20, 21, 22, 23, 24, 25, 26, 27, 28, 29, 30, 31, 32] (by decide +kernel) (by decide +kernel)
set_option maxRecDepth 20000 in
theorem gX5_compareOf_X5_keyOf : GoodIn wsX5_compareOf (wsV RX5 65 RX5 yX5_keyOf wsX5_keyOf) := goodIn_app (goodIn_of _ (by decide +kernel)) ggX5_compareOf_X5_keyOf
set_option maxRecDepth 20000 in
theorem ggX5_compareOf_X5_compareWords : GoodIn wsX5_compareOf wsX5_compareWords := goodIn_r _ [14, 15, 16, 17, 18, 19, 20, 21, 22, 23, 24, 25, 26, 27, 28, 29, 30, 31, 32] (by decide +kernel) (by decide +kernel)
set_option maxRecDepth 20000 in
theorem gX5_compareOf_X5_compareWords : GoodIn wsX5_compareOf (wsV RX5 69 RX5 yX5_compareWords wsX5_compareWords) := goodIn_app (goodIn_of _ (by decide +kernel)) ggX5_compareOf_X5_compareWords
theorem dX5_compareOf_0 : decode cX5_compareOf 0 = .ok (.aload_n 0, 1) := by decide +kernel
theorem dX5_compareOf_1 : decode cX5_compareOf 1 = .ok (.iload_n 1, 1) := by decide +kernel
theorem dX5_compareOf_2 : decode cX5_compareOf 2 = .ok (.aload_n 0, 1) := by decide +kernel
theorem dX5_compareOf_3 : decode cX5_compareOf 3 = .ok (.getfield 38, 3) := by decide +kernel
theorem dX5_compareOf_6 : decode cX5_compareOf 6 = .ok (.invokevirtual 65, 3) := by decide +kernel
theorem dX5_compareOf_9 : decode cX5_compareOf 9 = .ok (.istore_n 3, 1) := by decide +kernel
theorem dX5_compareOf_10 : decode cX5_compareOf 10 = .ok (.aload_n 0, 1) := by decide +kernel
theorem dX5_compareOf_11 : decode cX5_compareOf 11 = .ok (.iload_n 2, 1) := by decide +kernel
theorem dX5_compareOf_12 : decode cX5_compareOf 12 = .ok (.aload_n 0, 1) := by decide +kernel
theorem dX5_compareOf_13 : decode cX5_compareOf 13 = .ok (.getfield 41, 3) := by decide +kernel
theorem dX5_compareOf_16 : decode cX5_compareOf 16 = .ok (.invokevirtual 65, 3) := by decide +kernel
theorem dX5_compareOf_19 : decode cX5_compareOf 19 = .ok (.istore 4, 2) := by decide +kernel
theorem dX5_compareOf_21 : decode cX5_compareOf 21 = .ok (.iconst 0, 1) := by decide +kernel
theorem dX5_compareOf_22 : decode cX5_compareOf 22 = .ok (.istore 5, 2) := by decide +kernel
theorem dX5_compareOf_24 : decode cX5_compareOf 24 = .ok (.iconst 0, 1) := by decide +kernel
theorem dX5_compareOf_25 : decode cX5_compareOf 25 = .ok (.istore 6, 2) := by decide +kernel
theorem dX5_compareOf_27 : decode cX5_compareOf 27 = .ok (.iload 6, 2) := by decide +kernel
theorem dX5_compareOf_29 : decode cX5_compareOf 29 = .ok (.iload_n 3, 1) := by decide +kernel
theorem dX5_compareOf_30 : decode cX5_compareOf 30 = .ok (.if_icmp .ge 41, 3) := by decide +kernel
theorem dX5_compareOf_33 : decode cX5_compareOf 33 = .ok (.iload 6, 2) := by decide +kernel
theorem dX5_compareOf_35 : decode cX5_compareOf 35 = .ok (.iload 4, 2) := by decide +kernel
theorem dX5_compareOf_37 : decode cX5_compareOf 37 = .ok (.if_icmp .ge 34, 3) := by decide +kernel
theorem dX5_compareOf_40 : decode cX5_compareOf 40 = .ok (.iload 5, 2) := by decide +kernel
theorem dX5_compareOf_42 : decode cX5_compareOf 42 = .ok (.ifCond .ne 29, 3) := by decide +kernel
theorem dX5_compareOf_45 : decode cX5_compareOf 45 = .ok (.aload_n 0, 1) := by decide +kernel
theorem dX5_compareOf_46 : decode cX5_compareOf 46 = .ok (.aload_n 0, 1) := by decide +kernel
theorem dX5_compareOf_47 : decode cX5_compareOf 47 = .ok (.getfield 38, 3) := by decide +kernel
theorem dX5_compareOf_50 : decode cX5_compareOf 50 = .ok (.iload 6, 2) := by decide +kernel
theorem dX5_compareOf_52 : decode cX5_compareOf 52 = .ok (.iaload, 1) := by decide +kernel
theorem dX5_compareOf_53 : decode cX5_compareOf 53 = .ok (.aload_n 0, 1) := by decide +kernel
theorem dX5_compareOf_54 : decode cX5_compareOf 54 = .ok (.getfield 41, 3) := by decide +kernel
theorem dX5_compareOf_57 : decode cX5_compareOf 57 = .ok (.iload 6, 2) := by decide +kernel
theorem dX5_compareOf_59 : decode cX5_compareOf 59 = .ok (.iaload, 1) := by decide +kernel
theorem dX5_compareOf_60 : decode cX5_compareOf 60 = .ok (.invokevirtual 69, 3) := by decide +kernel
theorem dX5_compareOf_63 : decode cX5_compareOf 63 = .ok (.istore 5, 2) := by decide +kernel
theorem dX5_compareOf_65 : decode cX5_compareOf 65 = .ok (.iinc 6 1, 3) := by decide +kernel
theorem dX5_compareOf_68 : decode cX5_compareOf 68 = .ok (.goto (-41), 3) := by decide +kernel
theorem dX5_compareOf_71 : decode cX5_compareOf 71 = .ok (.iload 5, 2) := by decide +kernel
theorem dX5_compareOf_73 : decode cX5_compareOf 73 = .ok (.ifCond .ne 10, 3) := by decide +kernel
theorem dX5_compareOf_76 : decode cX5_compareOf 76 = .ok (.iload_n 3, 1) := by decide +kernel
theorem dX5_compareOf_77 : decode cX5_compareOf 77 = .ok (.iload 4, 2) := by decide +kernel
theorem dX5_compareOf_79 : decode cX5_compareOf 79 = .ok (.isub, 1) := by decide +kernel
theorem dX5_compareOf_80 : decode cX5_compareOf 80 = .ok (.goto 5, 3) := by decide +kernel
theorem dX5_compareOf_83 : decode cX5_compareOf 83 = .ok (.iload 5, 2) := by decide +kernel
theorem dX5_compareOf_85 : decode cX5_compareOf 85 = .ok (.istore 5, 2) := by decide +kernel
theorem dX5_compareOf_87 : decode cX5_compareOf 87 = .ok (.iload 5, 2) := by decide +kernel
theorem dX5_compareOf_89 : decode cX5_compareOf 89 = .ok (.ifCond .ge 7, 3) := by decide +kernel
theorem dX5_compareOf_92 : decode cX5_compareOf 92 = .ok (.iconst (-1), 1) := by decide +kernel
theorem dX5_compareOf_93 : decode cX5_compareOf 93 = .ok (.goto 13, 3) := by decide +kernel
theorem dX5_compareOf_96 : decode cX5_compareOf 96 = .ok (.iload 5, 2) := by decide +kernel
theorem dX5_compareOf_98 : decode cX5_compareOf 98 = .ok (.ifCond .le 7, 3) := by decide +kernel
theorem dX5_compareOf_101 : decode cX5_compareOf 101 = .ok (.iconst 1, 1) := by decide +kernel
theorem dX5_compareOf_102 : decode cX5_compareOf 102 = .ok (.goto 4, 3) := by decide +kernel
theorem dX5_compareOf_105 : decode cX5_compareOf 105 = .ok (.iconst 0, 1) := by decide +kernel
theorem dX5_compareOf_106 : decode cX5_compareOf 106 = .ok (.ireturn, 1) := by decide +kernel
set_option maxRecDepth 20000 in
theorem ggX5_isAhead_X5_compareOf : GoodIn wsX5_isAhead wsX5_compareOf := goodIn_r _ [7, 8, 9, 10, 11, 12, 6, 13, 1, 14, 2, 15, 16, 17, 18, 19, 20, 21, 22, 23, 24, 25, 26, 27, 28, 29, 30, 31, 32, 33, 34, 35, 36] (by decide +kernel) (by decide +kernel)
set_option maxRecDepth 20000 in
theorem gX5_isAhead_X5_compareOf : GoodIn wsX5_isAhead (wsV RX5 73 RX5 yX5_compareOf wsX5_compareOf) := goodIn_app (goodIn_of _ (by decide +kernel)) ggX5_isAhead_X5_compareOf
set_option maxRecDepth 20000 in
theorem ggX5_isAhead_X5_compareWords : GoodIn wsX5_isAhead wsX5_compareWords := goodIn_r _ [18, 19, 20, 21, 22, 23, 24, 25, 26, 27, 28, 29, 30, 31, 32, 33, 34, 35, 36] (by decide +kernel) (by decide +kernel)
set_option maxRecDepth 20000 in
theorem gX5_isAhead_X5_compareWords : GoodIn wsX5_isAhead (wsV RX5 69 RX5 yX5_compareWords wsX5_compareWords) := goodIn_app (goodIn_of _ (by decide +kernel)) ggX5_isAhead_X5_compareWords
theorem dX5_isAhead_0 : decode cX5_isAhead 0 = .ok (.aload_n 0, 1) := by decide +kernel
theorem dX5_isAhead_1 : decode cX5_isAhead 1 = .ok (.iload_n 1, 1) := by decide +kernel
theorem dX5_isAhead_2 : decode cX5_isAhead 2 = .ok (.iload_n 2, 1) := by decide +kernel
theorem dX5_isAhead_3 : decode cX5_isAhead 3 = .ok (.invokevirtual 73, 3) := by decide +kernel
theorem dX5_isAhead_6 : decode cX5_isAhead 6 = .ok (.istore_n 3, 1) := by decide +kernel
theorem dX5_isAhead_7 : decode cX5_isAhead 7 = .ok (.iconst 0, 1) := by decide +kernel
theorem dX5_isAhead_8 : decode cX5_isAhead 8 = .ok (.istore 4, 2) := by decide +kernel
theorem dX5_isAhead_10 : decode cX5_isAhead 10 = .ok (.iload 4, 2) := by decide +kernel
theorem dX5_isAhead_12 : decode cX5_isAhead 12 = .ok (.aload_n 0, 1) := by decide +kernel
theorem dX5_isAhead_13 : decode cX5_isAhead 13 = .ok (.getfield 19, 3) := by decide +kernel
theorem dX5_isAhead_16 : decode cX5_isAhead 16 = .ok (.iload_n 1, 1) := by decide +kernel
theorem dX5_isAhead_17 : decode cX5_isAhead 17 = .ok (.iaload, 1) := by decide +kernel
theorem dX5_isAhead_18 : decode cX5_isAhead 18 = .ok (.if_icmp .ge 51, 3) := by decide +kernel
theorem dX5_isAhead_21 : decode cX5_isAhead 21 = .ok (.iload 4, 2) := by decide +kernel
theorem dX5_isAhead_23 : decode cX5_isAhead 23 = .ok (.aload_n 0, 1) := by decide +kernel
theorem dX5_isAhead_24 : decode cX5_isAhead 24 = .ok (.getfield 19, 3) := by decide +kernel
theorem dX5_isAhead_27 : decode cX5_isAhead 27 = .ok (.iload_n 2, 1) := by decide +kernel
theorem dX5_isAhead_28 : decode cX5_isAhead 28 = .ok (.iaload, 1) := by decide +kernel
theorem dX5_isAhead_29 : decode cX5_isAhead 29 = .ok (.if_icmp .ge 40, 3) := by decide +kernel
theorem dX5_isAhead_32 : decode cX5_isAhead 32 = .ok (.iload_n 3, 1) := by decide +kernel
theorem dX5_isAhead_33 : decode cX5_isAhead 33 = .ok (.ifCond .ne 36, 3) := by decide +kernel
theorem dX5_isAhead_36 : decode cX5_isAhead 36 = .ok (.aload_n 0, 1) := by decide +kernel
theorem dX5_isAhead_37 : decode cX5_isAhead 37 = .ok (.aload_n 0, 1) := by decide +kernel
theorem dX5_isAhead_38 : decode cX5_isAhead 38 = .ok (.getfield 16, 3) := by decide +kernel
theorem dX5_isAhead_41 : decode cX5_isAhead 41 = .ok (.iconst 4, 1) := by decide +kernel
theorem dX5_isAhead_42 : decode cX5_isAhead 42 = .ok (.iload_n 1, 1) := by decide +kernel
theorem dX5_isAhead_43 : decode cX5_isAhead 43 = .ok (.imul, 1) := by decide +kernel
theorem dX5_isAhead_44 : decode cX5_isAhead 44 = .ok (.iload 4, 2) := by decide +kernel
theorem dX5_isAhead_46 : decode cX5_isAhead 46 = .ok (.iadd, 1) := by decide +kernel
theorem dX5_isAhead_47 : decode cX5_isAhead 47 = .ok (.iaload, 1) := by decide +kernel
theorem dX5_isAhead_48 : decode cX5_isAhead 48 = .ok (.aload_n 0, 1) := by decide +kernel
theorem dX5_isAhead_49 : decode cX5_isAhead 49 = .ok (.getfield 16, 3) := by decide +kernel
theorem dX5_isAhead_52 : decode cX5_isAhead 52 = .ok (.iconst 4, 1) := by decide +kernel
theorem dX5_isAhead_53 : decode cX5_isAhead 53 = .ok (.iload_n 2, 1) := by decide +kernel
theorem dX5_isAhead_54 : decode cX5_isAhead 54 = .ok (.imul, 1) := by decide +kernel
theorem dX5_isAhead_55 : decode cX5_isAhead 55 = .ok (.iload 4, 2) := by decide +kernel
theorem dX5_isAhead_57 : decode cX5_isAhead 57 = .ok (.iadd, 1) := by decide +kernel
theorem dX5_isAhead_58 : decode cX5_isAhead 58 = .ok (.iaload, 1) := by decide +kernel
theorem dX5_isAhead_59 : decode cX5_isAhead 59 = .ok (.invokevirtual 69, 3) := by decide +kernel
theorem dX5_isAhead_62 : decode cX5_isAhead 62 = .ok (.istore_n 3, 1) := by decide +kernel
theorem dX5_isAhead_63 : decode cX5_isAhead 63 = .ok (.iinc 4 1, 3) := by decide +kernel
theorem dX5_isAhead_66 : decode cX5_isAhead 66 = .ok (.goto (-56), 3) := by decide +kernel
theorem dX5_isAhead_69 : decode cX5_isAhead 69 = .ok (.iload_n 3, 1) := by decide +kernel
theorem dX5_isAhead_70 : decode cX5_isAhead 70 = .ok (.ifCond .ne 19, 3) := by decide +kernel
theorem dX5_isAhead_73 : decode cX5_isAhead 73 = .ok (.aload_n 0, 1) := by decide +kernel
theorem dX5_isAhead_74 : decode cX5_isAhead 74 = .ok (.getfield 19, 3) := by decide +kernel
theorem dX5_isAhead_77 : decode cX5_isAhead 77 = .ok (.iload_n 1, 1) := by decide +kernel
theorem dX5_isAhead_78 : decode cX5_isAhead 78 = .ok (.iaload, 1) := by decide +kernel
theorem dX5_isAhead_79 : decode cX5_isAhead 79 = .ok (.aload_n 0, 1) := by decide +kernel
theorem dX5_isAhead_80 : decode cX5_isAhead 80 = .ok (.getfield 19, 3) := by decide +kernel
theorem dX5_isAhead_83 : decode cX5_isAhead 83 = .ok (.iload_n 2, 1) := by decide +kernel
theorem dX5_isAhead_84 : decode cX5_isAhead 84 = .ok (.iaload, 1) := by decide +kernel
theorem dX5_isAhead_85 : decode cX5_isAhead 85 = .ok (.isub, 1) := by decide +kernel
theorem dX5_isAhead_86 : decode cX5_isAhead 86 = .ok (.goto 4, 3) := by decide +kernel
theorem dX5_isAhead_89 : decode cX5_isAhead 89 = .ok (.iload_n 3, 1) := by decide +kernel
theorem dX5_isAhead_90 : decode cX5_isAhead 90 = .ok (.istore_n 3, 1) := by decide +kernel
theorem dX5_isAhead_91 : decode cX5_isAhead 91 = .ok (.iload_n 3, 1) := by decide +kernel
theorem dX5_isAhead_92 : decode cX5_isAhead 92 = .ok (.ifCond .lt 12, 3) := by decide +kernel
theorem dX5_isAhead_95 : decode cX5_isAhead 95 = .ok (.iload_n 3, 1) := by decide +kernel
theorem dX5_isAhead_96 : decode cX5_isAhead 96 = .ok (.ifCond .ne 12, 3) := by decide +kernel
theorem dX5_isAhead_99 : decode cX5_isAhead 99 = .ok (.iload_n 1, 1) := by decide +kernel
theorem dX5_isAhead_100 : decode cX5_isAhead 100 = .ok (.iload_n 2, 1) := by decide +kernel
theorem dX5_isAhead_101 : decode cX5_isAhead 101 = .ok (.if_icmp .ge 7, 3) := by decide +kernel
theorem dX5_isAhead_104 : decode cX5_isAhead 104 = .ok (.iconst 1, 1) := by decide +kernel
theorem dX5_isAhead_105 : decode cX5_isAhead 105 = .ok (.goto 4, 3) := by decide +kernel
theorem dX5_isAhead_108 : decode cX5_isAhead 108 = .ok (.iconst 0, 1) := by decide +kernel
theorem dX5_isAhead_109 : decode cX5_isAhead 109 = .ok (.ireturn, 1) := by decide +kernel
set_option maxRecDepth 20000 in
theorem ggX5_countAhead_X5_isAhead : GoodIn wsX5_countAhead wsX5_isAhead := goodIn_r _ [6, 7, 8, 9, 10, 11, 5, 12, 13, 14, 15, 16, 17, 18, 19, 20, 21, 22, 23, 24, 25, 26, 27, 28, 29, 30, 31, 32, 33, 34, 35, 36, 37, 38, 39, 40, 41] (by decide +kernel) (by decide +kernel)
set_option maxRecDepth 20000 in
theorem gX5_countAhead_X5_isAhead : GoodIn wsX5_countAhead (wsV RX5 76 RX5 yX5_isAhead wsX5_isAhead) := goodIn_app (goodIn_of _ (by decide +kernel)) ggX5_countAhead_X5_isAhead
theorem dX5_countAhead_0 : decode cX5_countAhead 0 = .ok (.iconst 0, 1) := by decide +kernel
theorem dX5_countAhead_1 : decode cX5_countAhead 1 = .ok (.istore_n 2, 1) := by decide +kernel
theorem dX5_countAhead_2 : decode cX5_countAhead 2 = .ok (.iconst 0, 1) := by decide +kernel
theorem dX5_countAhead_3 : decode cX5_countAhead 3 = .ok (.istore_n 3, 1) := by decide +kernel
theorem dX5_countAhead_4 : decode cX5_countAhead 4 = .ok (.iload_n 3, 1) := by decide +kernel
theorem dX5_countAhead_5 : decode cX5_countAhead 5 = .ok (.aload_n 0, 1) := by decide +kernel
theorem dX5_countAhead_6 : decode cX5_countAhead 6 = .ok (.getfield 58, 3) := by decide +kernel
theorem dX5_countAhead_9 : decode cX5_countAhead 9 = .ok (.if_icmp .ge 31, 3) := by decide +kernel
theorem dX5_countAhead_12 : decode cX5_countAhead 12 = .ok (.iload_n 2, 1) := by decide +kernel
theorem dX5_countAhead_13 : decode cX5_countAhead 13 = .ok (.iload_n 3, 1) := by decide +kernel
theorem dX5_countAhead_14 : decode cX5_countAhead 14 = .ok (.iload_n 1, 1) := by decide +kernel
theorem dX5_countAhead_15 : decode cX5_countAhead 15 = .ok (.if_icmp .eq 16, 3) := by decide +kernel
theorem dX5_countAhead_18 : decode cX5_countAhead 18 = .ok (.aload_n 0, 1) := by decide +kernel
theorem dX5_countAhead_19 : decode cX5_countAhead 19 = .ok (.iload_n 3, 1) := by decide +kernel
theorem dX5_countAhead_20 : decode cX5_countAhead 20 = .ok (.iload_n 1, 1) := by decide +kernel
theorem dX5_countAhead_21 : decode cX5_countAhead 21 = .ok (.invokevirtual 76, 3) := by decide +kernel
theorem dX5_countAhead_24 : decode cX5_countAhead 24 = .ok (.ifCond .eq 7, 3) := by decide +kernel
theorem dX5_countAhead_27 : decode cX5_countAhead 27 = .ok (.iconst 1, 1) := by decide +kernel
theorem dX5_countAhead_28 : decode cX5_countAhead 28 = .ok (.goto 4, 3) := by decide +kernel
theorem dX5_countAhead_31 : decode cX5_countAhead 31 = .ok (.iconst 0, 1) := by decide +kernel
theorem dX5_countAhead_32 : decode cX5_countAhead 32 = .ok (.iadd, 1) := by decide +kernel
theorem dX5_countAhead_33 : decode cX5_countAhead 33 = .ok (.istore_n 2, 1) := by decide +kernel
theorem dX5_countAhead_34 : decode cX5_countAhead 34 = .ok (.iinc 3 1, 3) := by decide +kernel
theorem dX5_countAhead_37 : decode cX5_countAhead 37 = .ok (.goto (-33), 3) := by decide +kernel
theorem dX5_countAhead_40 : decode cX5_countAhead 40 = .ok (.iload_n 2, 1) := by decide +kernel
theorem dX5_countAhead_41 : decode cX5_countAhead 41 = .ok (.ireturn, 1) := by decide +kernel
theorem dX5_way_0 : decode cX5_way 0 = .ok (.iload_n 0, 1) := by decide +kernel
theorem dX5_way_1 : decode cX5_way 1 = .ok (.iload_n 1, 1) := by decide +kernel
theorem dX5_way_2 : decode cX5_way 2 = .ok (.if_icmp .ge 7, 3) := by decide +kernel
theorem dX5_way_5 : decode cX5_way 5 = .ok (.iconst 1, 1) := by decide +kernel
theorem dX5_way_6 : decode cX5_way 6 = .ok (.goto 13, 3) := by decide +kernel
theorem dX5_way_9 : decode cX5_way 9 = .ok (.iload_n 0, 1) := by decide +kernel
theorem dX5_way_10 : decode cX5_way 10 = .ok (.iload_n 1, 1) := by decide +kernel
theorem dX5_way_11 : decode cX5_way 11 = .ok (.if_icmp .le 7, 3) := by decide +kernel
theorem dX5_way_14 : decode cX5_way 14 = .ok (.iconst (-1), 1) := by decide +kernel
theorem dX5_way_15 : decode cX5_way 15 = .ok (.goto 4, 3) := by decide +kernel
theorem dX5_way_18 : decode cX5_way 18 = .ok (.iconst 0, 1) := by decide +kernel
theorem dX5_way_19 : decode cX5_way 19 = .ok (.ireturn, 1) := by decide +kernel
set_option maxRecDepth 20000 in
theorem ggX5_tracks_X5_way : GoodIn wsX5_tracks wsX5_way := goodIn_r _ [9] (by decide +kernel) (by decide +kernel)
set_option maxRecDepth 20000 in
theorem gX5_tracks_X5_way : GoodIn wsX5_tracks (va_wsS RX5 83 yX5_way wsX5_way) := goodIn_app (goodIn_of _ (by decide +kernel)) ggX5_tracks_X5_way
theorem dX5_tracks_0 : decode cX5_tracks 0 = .ok (.aload_n 0, 1) := by decide +kernel
theorem dX5_tracks_1 : decode cX5_tracks 1 = .ok (.iconst 0, 1) := by decide +kernel
theorem dX5_tracks_2 : decode cX5_tracks 2 = .ok (.putfield 80, 3) := by decide +kernel
theorem dX5_tracks_5 : decode cX5_tracks 5 = .ok (.iconst 0, 1) := by decide +kernel
theorem dX5_tracks_6 : decode cX5_tracks 6 = .ok (.istore_n 2, 1) := by decide +kernel
theorem dX5_tracks_7 : decode cX5_tracks 7 = .ok (.iload_n 2, 1) := by decide +kernel
theorem dX5_tracks_8 : decode cX5_tracks 8 = .ok (.sipush 144, 3) := by decide +kernel
theorem dX5_tracks_11 : decode cX5_tracks 11 = .ok (.if_icmp .ge 16, 3) := by decide +kernel
theorem dX5_tracks_14 : decode cX5_tracks 14 = .ok (.aload_n 0, 1) := by decide +kernel
theorem dX5_tracks_15 : decode cX5_tracks 15 = .ok (.getfield 35, 3) := by decide +kernel
theorem dX5_tracks_18 : decode cX5_tracks 18 = .ok (.iload_n 2, 1) := by decide +kernel
theorem dX5_tracks_19 : decode cX5_tracks 19 = .ok (.iconst 0, 1) := by decide +kernel
theorem dX5_tracks_20 : decode cX5_tracks 20 = .ok (.bastore, 1) := by decide +kernel
theorem dX5_tracks_21 : decode cX5_tracks 21 = .ok (.iinc 2 1, 3) := by decide +kernel
theorem dX5_tracks_24 : decode cX5_tracks 24 = .ok (.goto (-17), 3) := by decide +kernel
theorem dX5_tracks_27 : decode cX5_tracks 27 = .ok (.iconst 0, 1) := by decide +kernel
theorem dX5_tracks_28 : decode cX5_tracks 28 = .ok (.istore_n 2, 1) := by decide +kernel
theorem dX5_tracks_29 : decode cX5_tracks 29 = .ok (.iload_n 2, 1) := by decide +kernel
theorem dX5_tracks_30 : decode cX5_tracks 30 = .ok (.aload_n 0, 1) := by decide +kernel
theorem dX5_tracks_31 : decode cX5_tracks 31 = .ok (.getfield 25, 3) := by decide +kernel
theorem dX5_tracks_34 : decode cX5_tracks 34 = .ok (.iload_n 1, 1) := by decide +kernel
theorem dX5_tracks_35 : decode cX5_tracks 35 = .ok (.iaload, 1) := by decide +kernel
theorem dX5_tracks_36 : decode cX5_tracks 36 = .ok (.if_icmp .ge 121, 3) := by decide +kernel
theorem dX5_tracks_39 : decode cX5_tracks 39 = .ok (.aload_n 0, 1) := by decide +kernel
theorem dX5_tracks_40 : decode cX5_tracks 40 = .ok (.getfield 22, 3) := by decide +kernel
theorem dX5_tracks_43 : decode cX5_tracks 43 = .ok (.bipush 10, 2) := by decide +kernel
theorem dX5_tracks_45 : decode cX5_tracks 45 = .ok (.iload_n 1, 1) := by decide +kernel
theorem dX5_tracks_46 : decode cX5_tracks 46 = .ok (.imul, 1) := by decide +kernel
theorem dX5_tracks_47 : decode cX5_tracks 47 = .ok (.iload_n 2, 1) := by decide +kernel
theorem dX5_tracks_48 : decode cX5_tracks 48 = .ok (.iadd, 1) := by decide +kernel
theorem dX5_tracks_49 : decode cX5_tracks 49 = .ok (.iaload, 1) := by decide +kernel
theorem dX5_tracks_50 : decode cX5_tracks 50 = .ok (.istore_n 3, 1) := by decide +kernel
theorem dX5_tracks_51 : decode cX5_tracks 51 = .ok (.iload_n 2, 1) := by decide +kernel
theorem dX5_tracks_52 : decode cX5_tracks 52 = .ok (.ifCond .ne 7, 3) := by decide +kernel
theorem dX5_tracks_55 : decode cX5_tracks 55 = .ok (.iload_n 3, 1) := by decide +kernel
theorem dX5_tracks_56 : decode cX5_tracks 56 = .ok (.goto 14, 3) := by decide +kernel
theorem dX5_tracks_59 : decode cX5_tracks 59 = .ok (.aload_n 0, 1) := by decide +kernel
theorem dX5_tracks_60 : decode cX5_tracks 60 = .ok (.getfield 32, 3) := by decide +kernel
theorem dX5_tracks_63 : decode cX5_tracks 63 = .ok (.aload_n 0, 1) := by decide +kernel
theorem dX5_tracks_64 : decode cX5_tracks 64 = .ok (.getfield 80, 3) := by decide +kernel
theorem dX5_tracks_67 : decode cX5_tracks 67 = .ok (.iconst 1, 1) := by decide +kernel
theorem dX5_tracks_68 : decode cX5_tracks 68 = .ok (.isub, 1) := by decide +kernel
theorem dX5_tracks_69 : decode cX5_tracks 69 = .ok (.iaload, 1) := by decide +kernel
theorem dX5_tracks_70 : decode cX5_tracks 70 = .ok (.istore 4, 2) := by decide +kernel
theorem dX5_tracks_72 : decode cX5_tracks 72 = .ok (.iload_n 2, 1) := by decide +kernel
theorem dX5_tracks_73 : decode cX5_tracks 73 = .ok (.ifCond .ne 15, 3) := by decide +kernel
theorem dX5_tracks_76 : decode cX5_tracks 76 = .ok (.aload_n 0, 1) := by decide +kernel
theorem dX5_tracks_77 : decode cX5_tracks 77 = .ok (.getfield 32, 3) := by decide +kernel
theorem dX5_tracks_80 : decode cX5_tracks 80 = .ok (.iconst 0, 1) := by decide +kernel
theorem dX5_tracks_81 : decode cX5_tracks 81 = .ok (.iload_n 3, 1) := by decide +kernel
theorem dX5_tracks_82 : decode cX5_tracks 82 = .ok (.iastore, 1) := by decide +kernel
theorem dX5_tracks_83 : decode cX5_tracks 83 = .ok (.aload_n 0, 1) := by decide +kernel
theorem dX5_tracks_84 : decode cX5_tracks 84 = .ok (.iconst 1, 1) := by decide +kernel
theorem dX5_tracks_85 : decode cX5_tracks 85 = .ok (.putfield 80, 3) := by decide +kernel
theorem dX5_tracks_88 : decode cX5_tracks 88 = .ok (.iload 4, 2) := by decide +kernel
theorem dX5_tracks_90 : decode cX5_tracks 90 = .ok (.iload_n 3, 1) := by decide +kernel
theorem dX5_tracks_91 : decode cX5_tracks 91 = .ok (.if_icmp .eq 60, 3) := by decide +kernel
theorem dX5_tracks_94 : decode cX5_tracks 94 = .ok (.iload 4, 2) := by decide +kernel
theorem dX5_tracks_96 : decode cX5_tracks 96 = .ok (.bipush 12, 2) := by decide +kernel
theorem dX5_tracks_98 : decode cX5_tracks 98 = .ok (.iload 4, 2) := by decide +kernel
theorem dX5_tracks_100 : decode cX5_tracks 100 = .ok (.bipush 12, 2) := by decide +kernel
theorem dX5_tracks_102 : decode cX5_tracks 102 = .ok (.idiv, 1) := by decide +kernel
theorem dX5_tracks_103 : decode cX5_tracks 103 = .ok (.iload_n 3, 1) := by decide +kernel
theorem dX5_tracks_104 : decode cX5_tracks 104 = .ok (.bipush 12, 2) := by decide +kernel
theorem dX5_tracks_106 : decode cX5_tracks 106 = .ok (.idiv, 1) := by decide +kernel
theorem dX5_tracks_107 : decode cX5_tracks 107 = .ok (.invokestatic 83, 3) := by decide +kernel
theorem dX5_tracks_110 : decode cX5_tracks 110 = .ok (.imul, 1) := by decide +kernel
theorem dX5_tracks_111 : decode cX5_tracks 111 = .ok (.iload 4, 2) := by decide +kernel
theorem dX5_tracks_113 : decode cX5_tracks 113 = .ok (.bipush 12, 2) := by decide +kernel
theorem dX5_tracks_115 : decode cX5_tracks 115 = .ok (.irem, 1) := by decide +kernel
theorem dX5_tracks_116 : decode cX5_tracks 116 = .ok (.iload_n 3, 1) := by decide +kernel
theorem dX5_tracks_117 : decode cX5_tracks 117 = .ok (.bipush 12, 2) := by decide +kernel
theorem dX5_tracks_119 : decode cX5_tracks 119 = .ok (.irem, 1) := by decide +kernel
theorem dX5_tracks_120 : decode cX5_tracks 120 = .ok (.invokestatic 83, 3) := by decide +kernel
theorem dX5_tracks_123 : decode cX5_tracks 123 = .ok (.iadd, 1) := by decide +kernel
theorem dX5_tracks_124 : decode cX5_tracks 124 = .ok (.iadd, 1) := by decide +kernel
theorem dX5_tracks_125 : decode cX5_tracks 125 = .ok (.istore 4, 2) := by decide +kernel
theorem dX5_tracks_127 : decode cX5_tracks 127 = .ok (.aload_n 0, 1) := by decide +kernel
theorem dX5_tracks_128 : decode cX5_tracks 128 = .ok (.getfield 32, 3) := by decide +kernel
theorem dX5_tracks_131 : decode cX5_tracks 131 = .ok (.aload_n 0, 1) := by decide +kernel
theorem dX5_tracks_132 : decode cX5_tracks 132 = .ok (.getfield 80, 3) := by decide +kernel
theorem dX5_tracks_135 : decode cX5_tracks 135 = .ok (.iload 4, 2) := by decide +kernel
theorem dX5_tracks_137 : decode cX5_tracks 137 = .ok (.iastore, 1) := by decide +kernel
theorem dX5_tracks_138 : decode cX5_tracks 138 = .ok (.aload_n 0, 1) := by decide +kernel
theorem dX5_tracks_139 : decode cX5_tracks 139 = .ok (.dup, 1) := by decide +kernel
theorem dX5_tracks_140 : decode cX5_tracks 140 = .ok (.getfield 80, 3) := by decide +kernel
theorem dX5_tracks_143 : decode cX5_tracks 143 = .ok (.iconst 1, 1) := by decide +kernel
theorem dX5_tracks_144 : decode cX5_tracks 144 = .ok (.iadd, 1) := by decide +kernel
theorem dX5_tracks_145 : decode cX5_tracks 145 = .ok (.putfield 80, 3) := by decide +kernel
theorem dX5_tracks_148 : decode cX5_tracks 148 = .ok (.goto (-60), 3) := by decide +kernel
theorem dX5_tracks_151 : decode cX5_tracks 151 = .ok (.iinc 2 1, 3) := by decide +kernel
theorem dX5_tracks_154 : decode cX5_tracks 154 = .ok (.goto (-125), 3) := by decide +kernel
theorem dX5_tracks_157 : decode cX5_tracks 157 = .ok (.iconst 0, 1) := by decide +kernel
theorem dX5_tracks_158 : decode cX5_tracks 158 = .ok (.istore_n 2, 1) := by decide +kernel
theorem dX5_tracks_159 : decode cX5_tracks 159 = .ok (.iload_n 2, 1) := by decide +kernel
theorem dX5_tracks_160 : decode cX5_tracks 160 = .ok (.aload_n 0, 1) := by decide +kernel
theorem dX5_tracks_161 : decode cX5_tracks 161 = .ok (.getfield 80, 3) := by decide +kernel
theorem dX5_tracks_164 : decode cX5_tracks 164 = .ok (.if_icmp .ge 21, 3) := by decide +kernel
theorem dX5_tracks_167 : decode cX5_tracks 167 = .ok (.aload_n 0, 1) := by decide +kernel
theorem dX5_tracks_168 : decode cX5_tracks 168 = .ok (.getfield 35, 3) := by decide +kernel
theorem dX5_tracks_171 : decode cX5_tracks 171 = .ok (.aload_n 0, 1) := by decide +kernel
theorem dX5_tracks_172 : decode cX5_tracks 172 = .ok (.getfield 32, 3) := by decide +kernel
theorem dX5_tracks_175 : decode cX5_tracks 175 = .ok (.iload_n 2, 1) := by decide +kernel
theorem dX5_tracks_176 : decode cX5_tracks 176 = .ok (.iaload, 1) := by decide +kernel
theorem dX5_tracks_177 : decode cX5_tracks 177 = .ok (.iconst 1, 1) := by decide +kernel
theorem dX5_tracks_178 : decode cX5_tracks 178 = .ok (.bastore, 1) := by decide +kernel
theorem dX5_tracks_179 : decode cX5_tracks 179 = .ok (.iinc 2 1, 3) := by decide +kernel
theorem dX5_tracks_182 : decode cX5_tracks 182 = .ok (.goto (-23), 3) := by decide +kernel
theorem dX5_tracks_185 : decode cX5_tracks 185 = .ok (.return_, 1) := by decide +kernel
set_option maxRecDepth 20000 in
theorem ggX5_tracked_X5_tracks : GoodIn wsX5_tracked wsX5_tracks := goodIn_r _ [6, 1, 7, 8, 9, 10, 11, 12, 5, 13, 14, 15, 16, 17, 18, 19, 20, 21, 22, 23, 24, 25, 26, 27, 28, 29, 30] (by decide +kernel) (by decide +kernel)
set_option maxRecDepth 20000 in
theorem gX5_tracked_X5_tracks : GoodIn wsX5_tracked (wsV RX5 86 RX5 yX5_tracks wsX5_tracks) := goodIn_app (goodIn_of _ (by decide +kernel)) ggX5_tracked_X5_tracks
theorem dX5_tracked_0 : decode cX5_tracked 0 = .ok (.aload_n 0, 1) := by decide +kernel
theorem dX5_tracked_1 : decode cX5_tracked 1 = .ok (.iload_n 1, 1) := by decide +kernel
theorem dX5_tracked_2 : decode cX5_tracked 2 = .ok (.invokevirtual 86, 3) := by decide +kernel
theorem dX5_tracked_5 : decode cX5_tracked 5 = .ok (.aload_n 0, 1) := by decide +kernel
theorem dX5_tracked_6 : decode cX5_tracked 6 = .ok (.getfield 80, 3) := by decide +kernel
theorem dX5_tracked_9 : decode cX5_tracked 9 = .ok (.ireturn, 1) := by decide +kernel
theorem dX5_beginsRun_0 : decode cX5_beginsRun 0 = .ok (.aload_n 0, 1) := by decide +kernel
theorem dX5_beginsRun_1 : decode cX5_beginsRun 1 = .ok (.getfield 35, 3) := by decide +kernel
theorem dX5_beginsRun_4 : decode cX5_beginsRun 4 = .ok (.iload_n 1, 1) := by decide +kernel
theorem dX5_beginsRun_5 : decode cX5_beginsRun 5 = .ok (.baload, 1) := by decide +kernel
theorem dX5_beginsRun_6 : decode cX5_beginsRun 6 = .ok (.ifCond .eq 25, 3) := by decide +kernel
theorem dX5_beginsRun_9 : decode cX5_beginsRun 9 = .ok (.iload_n 1, 1) := by decide +kernel
theorem dX5_beginsRun_10 : decode cX5_beginsRun 10 = .ok (.bipush 12, 2) := by decide +kernel
theorem dX5_beginsRun_12 : decode cX5_beginsRun 12 = .ok (.irem, 1) := by decide +kernel
theorem dX5_beginsRun_13 : decode cX5_beginsRun 13 = .ok (.ifCond .eq 14, 3) := by decide +kernel
theorem dX5_beginsRun_16 : decode cX5_beginsRun 16 = .ok (.aload_n 0, 1) := by decide +kernel
theorem dX5_beginsRun_17 : decode cX5_beginsRun 17 = .ok (.getfield 35, 3) := by decide +kernel
theorem dX5_beginsRun_20 : decode cX5_beginsRun 20 = .ok (.iload_n 1, 1) := by decide +kernel
theorem dX5_beginsRun_21 : decode cX5_beginsRun 21 = .ok (.iconst 1, 1) := by decide +kernel
theorem dX5_beginsRun_22 : decode cX5_beginsRun 22 = .ok (.isub, 1) := by decide +kernel
theorem dX5_beginsRun_23 : decode cX5_beginsRun 23 = .ok (.baload, 1) := by decide +kernel
theorem dX5_beginsRun_24 : decode cX5_beginsRun 24 = .ok (.ifCond .ne 7, 3) := by decide +kernel
theorem dX5_beginsRun_27 : decode cX5_beginsRun 27 = .ok (.iconst 1, 1) := by decide +kernel
theorem dX5_beginsRun_28 : decode cX5_beginsRun 28 = .ok (.goto 4, 3) := by decide +kernel
theorem dX5_beginsRun_31 : decode cX5_beginsRun 31 = .ok (.iconst 0, 1) := by decide +kernel
theorem dX5_beginsRun_32 : decode cX5_beginsRun 32 = .ok (.ireturn, 1) := by decide +kernel
set_option maxRecDepth 20000 in
theorem ggX5_addStreet_X5_isName : GoodIn wsX5_addStreet wsX5_isName := goodIn_r _ [6, 7, 8, 5, 9] (by decide +kernel) (by decide +kernel)
set_option maxRecDepth 20000 in
theorem gX5_addStreet_X5_isName : GoodIn wsX5_addStreet (va_wsS RX5 90 yX5_isName wsX5_isName) := goodIn_app (goodIn_of _ (by decide +kernel)) ggX5_addStreet_X5_isName
set_option maxRecDepth 20000 in
theorem ggX5_addStreet_X5_gives : GoodIn wsX5_addStreet wsX5_gives := goodIn_r _ [13, 14, 15, 16, 17, 18, 19, 20, 21, 22, 23, 24, 25, 26, 27, 28, 29, 30, 31, 32] (by decide +kernel) (by decide +kernel)
set_option maxRecDepth 20000 in
theorem gX5_addStreet_X5_gives : GoodIn wsX5_addStreet (wsV RX5 93 RX5 yX5_gives wsX5_gives) := goodIn_app (goodIn_of _ (by decide +kernel)) ggX5_addStreet_X5_gives
theorem dX5_addStreet_0 : decode cX5_addStreet 0 = .ok (.aload_n 0, 1) := by decide +kernel
theorem dX5_addStreet_1 : decode cX5_addStreet 1 = .ok (.iload_n 1, 1) := by decide +kernel
theorem dX5_addStreet_2 : decode cX5_addStreet 2 = .ok (.iload_n 2, 1) := by decide +kernel
theorem dX5_addStreet_3 : decode cX5_addStreet 3 = .ok (.invokestatic 90, 3) := by decide +kernel
theorem dX5_addStreet_6 : decode cX5_addStreet 6 = .ok (.ifCond .ne 7, 3) := by decide +kernel
theorem dX5_addStreet_9 : decode cX5_addStreet 9 = .ok (.iconst 1, 1) := by decide +kernel
theorem dX5_addStreet_10 : decode cX5_addStreet 10 = .ok (.goto 17, 3) := by decide +kernel
theorem dX5_addStreet_13 : decode cX5_addStreet 13 = .ok (.aload_n 0, 1) := by decide +kernel
theorem dX5_addStreet_14 : decode cX5_addStreet 14 = .ok (.getfield 58, 3) := by decide +kernel
theorem dX5_addStreet_17 : decode cX5_addStreet 17 = .ok (.bipush 16, 2) := by decide +kernel
theorem dX5_addStreet_19 : decode cX5_addStreet 19 = .ok (.if_icmp .ne 7, 3) := by decide +kernel
theorem dX5_addStreet_22 : decode cX5_addStreet 22 = .ok (.iconst 2, 1) := by decide +kernel
theorem dX5_addStreet_23 : decode cX5_addStreet 23 = .ok (.goto 4, 3) := by decide +kernel
theorem dX5_addStreet_26 : decode cX5_addStreet 26 = .ok (.iconst 0, 1) := by decide +kernel
theorem dX5_addStreet_27 : decode cX5_addStreet 27 = .ok (.putfield 54, 3) := by decide +kernel
theorem dX5_addStreet_30 : decode cX5_addStreet 30 = .ok (.aload_n 0, 1) := by decide +kernel
theorem dX5_addStreet_31 : decode cX5_addStreet 31 = .ok (.getfield 54, 3) := by decide +kernel
theorem dX5_addStreet_34 : decode cX5_addStreet 34 = .ok (.ifCond .le 5, 3) := by decide +kernel
theorem dX5_addStreet_37 : decode cX5_addStreet 37 = .ok (.iconst 0, 1) := by decide +kernel
theorem dX5_addStreet_38 : decode cX5_addStreet 38 = .ok (.ireturn, 1) := by decide +kernel
theorem dX5_addStreet_39 : decode cX5_addStreet 39 = .ok (.aload_n 0, 1) := by decide +kernel
theorem dX5_addStreet_40 : decode cX5_addStreet 40 = .ok (.aload_n 0, 1) := by decide +kernel
theorem dX5_addStreet_41 : decode cX5_addStreet 41 = .ok (.getfield 58, 3) := by decide +kernel
theorem dX5_addStreet_44 : decode cX5_addStreet 44 = .ok (.iload_n 1, 1) := by decide +kernel
theorem dX5_addStreet_45 : decode cX5_addStreet 45 = .ok (.iload_n 2, 1) := by decide +kernel
theorem dX5_addStreet_46 : decode cX5_addStreet 46 = .ok (.invokevirtual 93, 3) := by decide +kernel
theorem dX5_addStreet_49 : decode cX5_addStreet 49 = .ok (.aload_n 0, 1) := by decide +kernel
theorem dX5_addStreet_50 : decode cX5_addStreet 50 = .ok (.dup, 1) := by decide +kernel
theorem dX5_addStreet_51 : decode cX5_addStreet 51 = .ok (.getfield 58, 3) := by decide +kernel
theorem dX5_addStreet_54 : decode cX5_addStreet 54 = .ok (.iconst 1, 1) := by decide +kernel
theorem dX5_addStreet_55 : decode cX5_addStreet 55 = .ok (.iadd, 1) := by decide +kernel
theorem dX5_addStreet_56 : decode cX5_addStreet 56 = .ok (.putfield 58, 3) := by decide +kernel
theorem dX5_addStreet_59 : decode cX5_addStreet 59 = .ok (.aload_n 0, 1) := by decide +kernel
theorem dX5_addStreet_60 : decode cX5_addStreet 60 = .ok (.getfield 58, 3) := by decide +kernel
theorem dX5_addStreet_63 : decode cX5_addStreet 63 = .ok (.iconst 1, 1) := by decide +kernel
theorem dX5_addStreet_64 : decode cX5_addStreet 64 = .ok (.isub, 1) := by decide +kernel
theorem dX5_addStreet_65 : decode cX5_addStreet 65 = .ok (.ireturn, 1) := by decide +kernel
set_option maxRecDepth 20000 in
theorem ggX5_addPoint_X5_isStreet : GoodIn wsX5_addPoint wsX5_isStreet := goodIn_r _ [7, 8, 9, 10, 6, 11, 34, 35, 36, 37, 38, 39, 40, 41, 42, 43, 44, 45, 46, 47, 48, 49, 50] (by decide +kernel) (by decide +kernel)
set_option maxRecDepth 20000 in
theorem gX5_addPoint_X5_isStreet : GoodIn wsX5_addPoint (wsV RX5 97 RX5 yX5_isStreet wsX5_isStreet) := goodIn_app (goodIn_of _ (by decide +kernel)) ggX5_addPoint_X5_isStreet
set_option maxRecDepth 20000 in
theorem ggX5_addPoint_X5_isSquare : GoodIn wsX5_addPoint wsX5_isSquare := goodIn_r _ [14, 9, 10, 6, 11] (by decide +kernel) (by decide +kernel)
set_option maxRecDepth 20000 in
theorem gX5_addPoint_X5_isSquare : GoodIn wsX5_addPoint (va_wsS RX5 101 yX5_isSquare wsX5_isSquare) := goodIn_app (goodIn_of _ (by decide +kernel)) ggX5_addPoint_X5_isSquare
set_option maxRecDepth 20000 in
theorem ggX5_addPoint_X5_goes : GoodIn wsX5_addPoint wsX5_goes := goodIn_r _ [18, 19, 34, 35, 36, 37, 38, 39, 40, 41, 42, 43, 44, 45, 46, 47, 48, 49, 50] (by decide +kernel) (by decide +kernel)
set_option maxRecDepth 20000 in
theorem gX5_addPoint_X5_goes : GoodIn wsX5_addPoint (wsV RX5 104 RX5 yX5_goes wsX5_goes) := goodIn_app (goodIn_of _ (by decide +kernel)) ggX5_addPoint_X5_goes
set_option maxRecDepth 20000 in
theorem ggX5_addPoint_X5_tracked : GoodIn wsX5_addPoint wsX5_tracked := goodIn_r _ [23, 24, 25, 26, 27, 6, 28, 29, 1, 2, 30, 31, 32, 33, 34, 35, 36, 37, 38, 39, 40, 41, 42, 43, 44, 45, 46, 47, 48, 49, 50] (by decide +kernel) (by decide +kernel)
set_option maxRecDepth 20000 in
theorem gX5_addPoint_X5_tracked : GoodIn wsX5_addPoint (wsV RX5 108 RX5 yX5_tracked wsX5_tracked) := goodIn_app (goodIn_of _ (by decide +kernel)) ggX5_addPoint_X5_tracked
theorem dX5_addPoint_0 : decode cX5_addPoint 0 = .ok (.aload_n 0, 1) := by decide +kernel
theorem dX5_addPoint_1 : decode cX5_addPoint 1 = .ok (.iload_n 1, 1) := by decide +kernel
theorem dX5_addPoint_2 : decode cX5_addPoint 2 = .ok (.invokevirtual 97, 3) := by decide +kernel
theorem dX5_addPoint_5 : decode cX5_addPoint 5 = .ok (.ifCond .eq 15, 3) := by decide +kernel
theorem dX5_addPoint_8 : decode cX5_addPoint 8 = .ok (.iload_n 2, 1) := by decide +kernel
theorem dX5_addPoint_9 : decode cX5_addPoint 9 = .ok (.iload_n 3, 1) := by decide +kernel
theorem dX5_addPoint_10 : decode cX5_addPoint 10 = .ok (.invokestatic 101, 3) := by decide +kernel
theorem dX5_addPoint_13 : decode cX5_addPoint 13 = .ok (.ifCond .eq 7, 3) := by decide +kernel
theorem dX5_addPoint_16 : decode cX5_addPoint 16 = .ok (.iconst 1, 1) := by decide +kernel
theorem dX5_addPoint_17 : decode cX5_addPoint 17 = .ok (.goto 4, 3) := by decide +kernel
theorem dX5_addPoint_20 : decode cX5_addPoint 20 = .ok (.iconst 0, 1) := by decide +kernel
theorem dX5_addPoint_21 : decode cX5_addPoint 21 = .ok (.istore 4, 2) := by decide +kernel
theorem dX5_addPoint_23 : decode cX5_addPoint 23 = .ok (.iconst 1, 1) := by decide +kernel
theorem dX5_addPoint_24 : decode cX5_addPoint 24 = .ok (.istore 5, 2) := by decide +kernel
theorem dX5_addPoint_26 : decode cX5_addPoint 26 = .ok (.iload 4, 2) := by decide +kernel
theorem dX5_addPoint_28 : decode cX5_addPoint 28 = .ok (.ifCond .eq 104, 3) := by decide +kernel
theorem dX5_addPoint_31 : decode cX5_addPoint 31 = .ok (.aload_n 0, 1) := by decide +kernel
theorem dX5_addPoint_32 : decode cX5_addPoint 32 = .ok (.getfield 25, 3) := by decide +kernel
theorem dX5_addPoint_35 : decode cX5_addPoint 35 = .ok (.iload_n 1, 1) := by decide +kernel
theorem dX5_addPoint_36 : decode cX5_addPoint 36 = .ok (.iaload, 1) := by decide +kernel
theorem dX5_addPoint_37 : decode cX5_addPoint 37 = .ok (.ifCond .le 95, 3) := by decide +kernel
theorem dX5_addPoint_40 : decode cX5_addPoint 40 = .ok (.aload_n 0, 1) := by decide +kernel
theorem dX5_addPoint_41 : decode cX5_addPoint 41 = .ok (.getfield 22, 3) := by decide +kernel
theorem dX5_addPoint_44 : decode cX5_addPoint 44 = .ok (.bipush 10, 2) := by decide +kernel
theorem dX5_addPoint_46 : decode cX5_addPoint 46 = .ok (.iload_n 1, 1) := by decide +kernel
theorem dX5_addPoint_47 : decode cX5_addPoint 47 = .ok (.imul, 1) := by decide +kernel
theorem dX5_addPoint_48 : decode cX5_addPoint 48 = .ok (.aload_n 0, 1) := by decide +kernel
theorem dX5_addPoint_49 : decode cX5_addPoint 49 = .ok (.getfield 25, 3) := by decide +kernel
theorem dX5_addPoint_52 : decode cX5_addPoint 52 = .ok (.iload_n 1, 1) := by decide +kernel
theorem dX5_addPoint_53 : decode cX5_addPoint 53 = .ok (.iaload, 1) := by decide +kernel
theorem dX5_addPoint_54 : decode cX5_addPoint 54 = .ok (.iadd, 1) := by decide +kernel
theorem dX5_addPoint_55 : decode cX5_addPoint 55 = .ok (.iconst 1, 1) := by decide +kernel
theorem dX5_addPoint_56 : decode cX5_addPoint 56 = .ok (.isub, 1) := by decide +kernel
theorem dX5_addPoint_57 : decode cX5_addPoint 57 = .ok (.iaload, 1) := by decide +kernel
theorem dX5_addPoint_58 : decode cX5_addPoint 58 = .ok (.istore 6, 2) := by decide +kernel
theorem dX5_addPoint_60 : decode cX5_addPoint 60 = .ok (.iload_n 2, 1) := by decide +kernel
theorem dX5_addPoint_61 : decode cX5_addPoint 61 = .ok (.iload 6, 2) := by decide +kernel
theorem dX5_addPoint_63 : decode cX5_addPoint 63 = .ok (.bipush 12, 2) := by decide +kernel
theorem dX5_addPoint_65 : decode cX5_addPoint 65 = .ok (.idiv, 1) := by decide +kernel
theorem dX5_addPoint_66 : decode cX5_addPoint 66 = .ok (.isub, 1) := by decide +kernel
theorem dX5_addPoint_67 : decode cX5_addPoint 67 = .ok (.istore 7, 2) := by decide +kernel
theorem dX5_addPoint_69 : decode cX5_addPoint 69 = .ok (.iload_n 3, 1) := by decide +kernel
theorem dX5_addPoint_70 : decode cX5_addPoint 70 = .ok (.iload 6, 2) := by decide +kernel
theorem dX5_addPoint_72 : decode cX5_addPoint 72 = .ok (.bipush 12, 2) := by decide +kernel
theorem dX5_addPoint_74 : decode cX5_addPoint 74 = .ok (.irem, 1) := by decide +kernel
theorem dX5_addPoint_75 : decode cX5_addPoint 75 = .ok (.isub, 1) := by decide +kernel
theorem dX5_addPoint_76 : decode cX5_addPoint 76 = .ok (.istore 8, 2) := by decide +kernel
theorem dX5_addPoint_78 : decode cX5_addPoint 78 = .ok (.iload 7, 2) := by decide +kernel
theorem dX5_addPoint_80 : decode cX5_addPoint 80 = .ok (.ifCond .eq 23, 3) := by decide +kernel
theorem dX5_addPoint_83 : decode cX5_addPoint 83 = .ok (.iload 8, 2) := by decide +kernel
theorem dX5_addPoint_85 : decode cX5_addPoint 85 = .ok (.ifCond .eq 18, 3) := by decide +kernel
theorem dX5_addPoint_88 : decode cX5_addPoint 88 = .ok (.iload 7, 2) := by decide +kernel
theorem dX5_addPoint_90 : decode cX5_addPoint 90 = .ok (.iload 8, 2) := by decide +kernel
theorem dX5_addPoint_92 : decode cX5_addPoint 92 = .ok (.if_icmp .eq 11, 3) := by decide +kernel
theorem dX5_addPoint_95 : decode cX5_addPoint 95 = .ok (.iload 7, 2) := by decide +kernel
theorem dX5_addPoint_97 : decode cX5_addPoint 97 = .ok (.iload 8, 2) := by decide +kernel
theorem dX5_addPoint_99 : decode cX5_addPoint 99 = .ok (.ineg, 1) := by decide +kernel
theorem dX5_addPoint_100 : decode cX5_addPoint 100 = .ok (.if_icmp .ne 7, 3) := by decide +kernel
theorem dX5_addPoint_103 : decode cX5_addPoint 103 = .ok (.iconst 1, 1) := by decide +kernel
theorem dX5_addPoint_104 : decode cX5_addPoint 104 = .ok (.goto 4, 3) := by decide +kernel
theorem dX5_addPoint_107 : decode cX5_addPoint 107 = .ok (.iconst 0, 1) := by decide +kernel
theorem dX5_addPoint_108 : decode cX5_addPoint 108 = .ok (.istore 9, 2) := by decide +kernel
theorem dX5_addPoint_110 : decode cX5_addPoint 110 = .ok (.iload 9, 2) := by decide +kernel
theorem dX5_addPoint_112 : decode cX5_addPoint 112 = .ok (.ifCond .eq 17, 3) := by decide +kernel
theorem dX5_addPoint_115 : decode cX5_addPoint 115 = .ok (.iload 7, 2) := by decide +kernel
theorem dX5_addPoint_117 : decode cX5_addPoint 117 = .ok (.ifCond .ne 8, 3) := by decide +kernel
theorem dX5_addPoint_120 : decode cX5_addPoint 120 = .ok (.iload 8, 2) := by decide +kernel
theorem dX5_addPoint_122 : decode cX5_addPoint 122 = .ok (.ifCond .eq 7, 3) := by decide +kernel
theorem dX5_addPoint_125 : decode cX5_addPoint 125 = .ok (.iconst 1, 1) := by decide +kernel
theorem dX5_addPoint_126 : decode cX5_addPoint 126 = .ok (.goto 4, 3) := by decide +kernel
theorem dX5_addPoint_129 : decode cX5_addPoint 129 = .ok (.iconst 0, 1) := by decide +kernel
theorem dX5_addPoint_130 : decode cX5_addPoint 130 = .ok (.istore 5, 2) := by decide +kernel
theorem dX5_addPoint_132 : decode cX5_addPoint 132 = .ok (.aload_n 0, 1) := by decide +kernel
theorem dX5_addPoint_133 : decode cX5_addPoint 133 = .ok (.iload 4, 2) := by decide +kernel
theorem dX5_addPoint_135 : decode cX5_addPoint 135 = .ok (.iload 5, 2) := by decide +kernel
theorem dX5_addPoint_137 : decode cX5_addPoint 137 = .ok (.iload 4, 2) := by decide +kernel
theorem dX5_addPoint_139 : decode cX5_addPoint 139 = .ok (.ifCond .eq 18, 3) := by decide +kernel
theorem dX5_addPoint_142 : decode cX5_addPoint 142 = .ok (.aload_n 0, 1) := by decide +kernel
theorem dX5_addPoint_143 : decode cX5_addPoint 143 = .ok (.getfield 25, 3) := by decide +kernel
theorem dX5_addPoint_146 : decode cX5_addPoint 146 = .ok (.iload_n 1, 1) := by decide +kernel
theorem dX5_addPoint_147 : decode cX5_addPoint 147 = .ok (.iaload, 1) := by decide +kernel
theorem dX5_addPoint_148 : decode cX5_addPoint 148 = .ok (.bipush 10, 2) := by decide +kernel
theorem dX5_addPoint_150 : decode cX5_addPoint 150 = .ok (.if_icmp .ge 7, 3) := by decide +kernel
theorem dX5_addPoint_153 : decode cX5_addPoint 153 = .ok (.iconst 1, 1) := by decide +kernel
theorem dX5_addPoint_154 : decode cX5_addPoint 154 = .ok (.goto 4, 3) := by decide +kernel
theorem dX5_addPoint_157 : decode cX5_addPoint 157 = .ok (.iconst 0, 1) := by decide +kernel
theorem dX5_addPoint_158 : decode cX5_addPoint 158 = .ok (.invokevirtual 104, 3) := by decide +kernel
theorem dX5_addPoint_161 : decode cX5_addPoint 161 = .ok (.ifCond .ne 5, 3) := by decide +kernel
theorem dX5_addPoint_164 : decode cX5_addPoint 164 = .ok (.iconst 0, 1) := by decide +kernel
theorem dX5_addPoint_165 : decode cX5_addPoint 165 = .ok (.ireturn, 1) := by decide +kernel
theorem dX5_addPoint_166 : decode cX5_addPoint 166 = .ok (.aload_n 0, 1) := by decide +kernel
theorem dX5_addPoint_167 : decode cX5_addPoint 167 = .ok (.getfield 22, 3) := by decide +kernel
theorem dX5_addPoint_170 : decode cX5_addPoint 170 = .ok (.bipush 10, 2) := by decide +kernel
theorem dX5_addPoint_172 : decode cX5_addPoint 172 = .ok (.iload_n 1, 1) := by decide +kernel
theorem dX5_addPoint_173 : decode cX5_addPoint 173 = .ok (.imul, 1) := by decide +kernel
theorem dX5_addPoint_174 : decode cX5_addPoint 174 = .ok (.aload_n 0, 1) := by decide +kernel
theorem dX5_addPoint_175 : decode cX5_addPoint 175 = .ok (.getfield 25, 3) := by decide +kernel
theorem dX5_addPoint_178 : decode cX5_addPoint 178 = .ok (.iload_n 1, 1) := by decide +kernel
theorem dX5_addPoint_179 : decode cX5_addPoint 179 = .ok (.iaload, 1) := by decide +kernel
theorem dX5_addPoint_180 : decode cX5_addPoint 180 = .ok (.iadd, 1) := by decide +kernel
theorem dX5_addPoint_181 : decode cX5_addPoint 181 = .ok (.bipush 12, 2) := by decide +kernel
theorem dX5_addPoint_183 : decode cX5_addPoint 183 = .ok (.iload_n 2, 1) := by decide +kernel
theorem dX5_addPoint_184 : decode cX5_addPoint 184 = .ok (.imul, 1) := by decide +kernel
theorem dX5_addPoint_185 : decode cX5_addPoint 185 = .ok (.iload_n 3, 1) := by decide +kernel
theorem dX5_addPoint_186 : decode cX5_addPoint 186 = .ok (.iadd, 1) := by decide +kernel
theorem dX5_addPoint_187 : decode cX5_addPoint 187 = .ok (.iastore, 1) := by decide +kernel
theorem dX5_addPoint_188 : decode cX5_addPoint 188 = .ok (.aload_n 0, 1) := by decide +kernel
theorem dX5_addPoint_189 : decode cX5_addPoint 189 = .ok (.getfield 25, 3) := by decide +kernel
theorem dX5_addPoint_192 : decode cX5_addPoint 192 = .ok (.iload_n 1, 1) := by decide +kernel
theorem dX5_addPoint_193 : decode cX5_addPoint 193 = .ok (.dup2, 1) := by decide +kernel
theorem dX5_addPoint_194 : decode cX5_addPoint 194 = .ok (.iaload, 1) := by decide +kernel
theorem dX5_addPoint_195 : decode cX5_addPoint 195 = .ok (.iconst 1, 1) := by decide +kernel
theorem dX5_addPoint_196 : decode cX5_addPoint 196 = .ok (.iadd, 1) := by decide +kernel
theorem dX5_addPoint_197 : decode cX5_addPoint 197 = .ok (.iastore, 1) := by decide +kernel
theorem dX5_addPoint_198 : decode cX5_addPoint 198 = .ok (.aload_n 0, 1) := by decide +kernel
theorem dX5_addPoint_199 : decode cX5_addPoint 199 = .ok (.iload_n 1, 1) := by decide +kernel
theorem dX5_addPoint_200 : decode cX5_addPoint 200 = .ok (.invokevirtual 108, 3) := by decide +kernel
theorem dX5_addPoint_203 : decode cX5_addPoint 203 = .ok (.ireturn, 1) := by decide +kernel
set_option maxRecDepth 20000 in
theorem ggX5_dropPoint_X5_isStreet : GoodIn wsX5_dropPoint wsX5_isStreet := goodIn_r _ [7, 8, 9, 10, 6, 11, 27, 28, 29, 30, 31, 32, 33, 34, 35, 36, 37, 38, 39, 40, 41, 42, 43] (by decide +kernel) (by decide +kernel)
set_option maxRecDepth 20000 in
theorem gX5_dropPoint_X5_isStreet : GoodIn wsX5_dropPoint (wsV RX5 97 RX5 yX5_isStreet wsX5_isStreet) := goodIn_app (goodIn_of _ (by decide +kernel)) ggX5_dropPoint_X5_isStreet
set_option maxRecDepth 20000 in
theorem ggX5_dropPoint_X5_tracked : GoodIn wsX5_dropPoint wsX5_tracked := goodIn_r _ [15, 16, 17, 18, 19, 6, 20, 21, 1, 22, 23, 24, 25, 26, 27, 28, 29, 30, 31, 32, 33, 34, 35, 36, 37, 38, 39, 40, 41, 42, 43] (by decide +kernel) (by decide +kernel)
set_option maxRecDepth 20000 in
theorem gX5_dropPoint_X5_tracked : GoodIn wsX5_dropPoint (wsV RX5 108 RX5 yX5_tracked wsX5_tracked) := goodIn_app (goodIn_of _ (by decide +kernel)) ggX5_dropPoint_X5_tracked
theorem dX5_dropPoint_0 : decode cX5_dropPoint 0 = .ok (.aload_n 0, 1) := by decide +kernel
theorem dX5_dropPoint_1 : decode cX5_dropPoint 1 = .ok (.iload_n 1, 1) := by decide +kernel
theorem dX5_dropPoint_2 : decode cX5_dropPoint 2 = .ok (.invokevirtual 97, 3) := by decide +kernel
theorem dX5_dropPoint_5 : decode cX5_dropPoint 5 = .ok (.istore_n 2, 1) := by decide +kernel
theorem dX5_dropPoint_6 : decode cX5_dropPoint 6 = .ok (.aload_n 0, 1) := by decide +kernel
theorem dX5_dropPoint_7 : decode cX5_dropPoint 7 = .ok (.iload_n 2, 1) := by decide +kernel
theorem dX5_dropPoint_8 : decode cX5_dropPoint 8 = .ok (.ifCond .ne 7, 3) := by decide +kernel
theorem dX5_dropPoint_11 : decode cX5_dropPoint 11 = .ok (.iconst 1, 1) := by decide +kernel
theorem dX5_dropPoint_12 : decode cX5_dropPoint 12 = .ok (.goto 17, 3) := by decide +kernel
theorem dX5_dropPoint_15 : decode cX5_dropPoint 15 = .ok (.aload_n 0, 1) := by decide +kernel
theorem dX5_dropPoint_16 : decode cX5_dropPoint 16 = .ok (.getfield 25, 3) := by decide +kernel
theorem dX5_dropPoint_19 : decode cX5_dropPoint 19 = .ok (.iload_n 1, 1) := by decide +kernel
theorem dX5_dropPoint_20 : decode cX5_dropPoint 20 = .ok (.iaload, 1) := by decide +kernel
theorem dX5_dropPoint_21 : decode cX5_dropPoint 21 = .ok (.ifCond .le 7, 3) := by decide +kernel
theorem dX5_dropPoint_24 : decode cX5_dropPoint 24 = .ok (.iconst 0, 1) := by decide +kernel
theorem dX5_dropPoint_25 : decode cX5_dropPoint 25 = .ok (.goto 4, 3) := by decide +kernel
theorem dX5_dropPoint_28 : decode cX5_dropPoint 28 = .ok (.iconst 2, 1) := by decide +kernel
theorem dX5_dropPoint_29 : decode cX5_dropPoint 29 = .ok (.putfield 54, 3) := by decide +kernel
theorem dX5_dropPoint_32 : decode cX5_dropPoint 32 = .ok (.aload_n 0, 1) := by decide +kernel
theorem dX5_dropPoint_33 : decode cX5_dropPoint 33 = .ok (.getfield 54, 3) := by decide +kernel
theorem dX5_dropPoint_36 : decode cX5_dropPoint 36 = .ok (.ifCond .le 5, 3) := by decide +kernel
theorem dX5_dropPoint_39 : decode cX5_dropPoint 39 = .ok (.iconst 0, 1) := by decide +kernel
theorem dX5_dropPoint_40 : decode cX5_dropPoint 40 = .ok (.ireturn, 1) := by decide +kernel
theorem dX5_dropPoint_41 : decode cX5_dropPoint 41 = .ok (.aload_n 0, 1) := by decide +kernel
theorem dX5_dropPoint_42 : decode cX5_dropPoint 42 = .ok (.getfield 25, 3) := by decide +kernel
theorem dX5_dropPoint_45 : decode cX5_dropPoint 45 = .ok (.iload_n 1, 1) := by decide +kernel
theorem dX5_dropPoint_46 : decode cX5_dropPoint 46 = .ok (.dup2, 1) := by decide +kernel
theorem dX5_dropPoint_47 : decode cX5_dropPoint 47 = .ok (.iaload, 1) := by decide +kernel
theorem dX5_dropPoint_48 : decode cX5_dropPoint 48 = .ok (.iconst 1, 1) := by decide +kernel
theorem dX5_dropPoint_49 : decode cX5_dropPoint 49 = .ok (.isub, 1) := by decide +kernel
theorem dX5_dropPoint_50 : decode cX5_dropPoint 50 = .ok (.iastore, 1) := by decide +kernel
theorem dX5_dropPoint_51 : decode cX5_dropPoint 51 = .ok (.aload_n 0, 1) := by decide +kernel
theorem dX5_dropPoint_52 : decode cX5_dropPoint 52 = .ok (.iload_n 1, 1) := by decide +kernel
theorem dX5_dropPoint_53 : decode cX5_dropPoint 53 = .ok (.invokevirtual 108, 3) := by decide +kernel
theorem dX5_dropPoint_56 : decode cX5_dropPoint 56 = .ok (.ireturn, 1) := by decide +kernel
set_option maxRecDepth 20000 in
theorem ggX5_setOneWay_X5_isStreet : GoodIn wsX5_setOneWay wsX5_isStreet := goodIn_r _ [6, 7, 8, 9, 5, 10, 16, 17, 18, 19, 20, 21, 22, 23, 24, 25, 26, 27, 28, 29, 30, 31, 32] (by decide +kernel) (by decide +kernel)
set_option maxRecDepth 20000 in
theorem gX5_setOneWay_X5_isStreet : GoodIn wsX5_setOneWay (wsV RX5 97 RX5 yX5_isStreet wsX5_isStreet) := goodIn_app (goodIn_of _ (by decide +kernel)) ggX5_setOneWay_X5_isStreet
set_option maxRecDepth 20000 in
theorem ggX5_setOneWay_X5_goes : GoodIn wsX5_setOneWay wsX5_goes := goodIn_r _ [14, 15, 16, 17, 18, 19, 20, 21, 22, 23, 24, 25, 26, 27, 28, 29, 30, 31, 32] (by decide +kernel) (by decide +kernel)
set_option maxRecDepth 20000 in
theorem gX5_setOneWay_X5_goes : GoodIn wsX5_setOneWay (wsV RX5 104 RX5 yX5_goes wsX5_goes) := goodIn_app (goodIn_of _ (by decide +kernel)) ggX5_setOneWay_X5_goes
theorem dX5_setOneWay_0 : decode cX5_setOneWay 0 = .ok (.aload_n 0, 1) := by decide +kernel
theorem dX5_setOneWay_1 : decode cX5_setOneWay 1 = .ok (.aload_n 0, 1) := by decide +kernel
theorem dX5_setOneWay_2 : decode cX5_setOneWay 2 = .ok (.iload_n 1, 1) := by decide +kernel
theorem dX5_setOneWay_3 : decode cX5_setOneWay 3 = .ok (.invokevirtual 97, 3) := by decide +kernel
theorem dX5_setOneWay_6 : decode cX5_setOneWay 6 = .ok (.iconst 1, 1) := by decide +kernel
theorem dX5_setOneWay_7 : decode cX5_setOneWay 7 = .ok (.iconst 1, 1) := by decide +kernel
theorem dX5_setOneWay_8 : decode cX5_setOneWay 8 = .ok (.invokevirtual 104, 3) := by decide +kernel
theorem dX5_setOneWay_11 : decode cX5_setOneWay 11 = .ok (.ifCond .ne 5, 3) := by decide +kernel
theorem dX5_setOneWay_14 : decode cX5_setOneWay 14 = .ok (.iconst 0, 1) := by decide +kernel
theorem dX5_setOneWay_15 : decode cX5_setOneWay 15 = .ok (.ireturn, 1) := by decide +kernel
theorem dX5_setOneWay_16 : decode cX5_setOneWay 16 = .ok (.aload_n 0, 1) := by decide +kernel
theorem dX5_setOneWay_17 : decode cX5_setOneWay 17 = .ok (.getfield 28, 3) := by decide +kernel
theorem dX5_setOneWay_20 : decode cX5_setOneWay 20 = .ok (.iload_n 1, 1) := by decide +kernel
theorem dX5_setOneWay_21 : decode cX5_setOneWay 21 = .ok (.baload, 1) := by decide +kernel
theorem dX5_setOneWay_22 : decode cX5_setOneWay 22 = .ok (.istore_n 3, 1) := by decide +kernel
theorem dX5_setOneWay_23 : decode cX5_setOneWay 23 = .ok (.aload_n 0, 1) := by decide +kernel
theorem dX5_setOneWay_24 : decode cX5_setOneWay 24 = .ok (.getfield 28, 3) := by decide +kernel
theorem dX5_setOneWay_27 : decode cX5_setOneWay 27 = .ok (.iload_n 1, 1) := by decide +kernel
theorem dX5_setOneWay_28 : decode cX5_setOneWay 28 = .ok (.iload_n 2, 1) := by decide +kernel
theorem dX5_setOneWay_29 : decode cX5_setOneWay 29 = .ok (.bastore, 1) := by decide +kernel
theorem dX5_setOneWay_30 : decode cX5_setOneWay 30 = .ok (.iload_n 3, 1) := by decide +kernel
theorem dX5_setOneWay_31 : decode cX5_setOneWay 31 = .ok (.ireturn, 1) := by decide +kernel
set_option maxRecDepth 20000 in
theorem ggX5_rename_X5_isStreet : GoodIn wsX5_rename wsX5_isStreet := goodIn_r _ [5, 6, 7, 8, 4, 9, 24, 25, 26, 27, 28, 29, 30, 31, 32, 33, 34, 35, 36, 37, 38, 39, 40] (by decide +kernel) (by decide +kernel)
set_option maxRecDepth 20000 in
theorem gX5_rename_X5_isStreet : GoodIn wsX5_rename (wsV RX5 97 RX5 yX5_isStreet wsX5_isStreet) := goodIn_app (goodIn_of _ (by decide +kernel)) ggX5_rename_X5_isStreet
set_option maxRecDepth 20000 in
theorem ggX5_rename_X5_isName : GoodIn wsX5_rename wsX5_isName := goodIn_r _ [12, 7, 8, 4, 9] (by decide +kernel) (by decide +kernel)
set_option maxRecDepth 20000 in
theorem gX5_rename_X5_isName : GoodIn wsX5_rename (va_wsS RX5 90 yX5_isName wsX5_isName) := goodIn_app (goodIn_of _ (by decide +kernel)) ggX5_rename_X5_isName
set_option maxRecDepth 20000 in
theorem ggX5_rename_X5_goes : GoodIn wsX5_rename wsX5_goes := goodIn_r _ [16, 17, 24, 25, 26, 27, 28, 29, 30, 31, 32, 33, 34, 35, 36, 37, 38, 39, 40] (by decide +kernel) (by decide +kernel)
set_option maxRecDepth 20000 in
theorem gX5_rename_X5_goes : GoodIn wsX5_rename (wsV RX5 104 RX5 yX5_goes wsX5_goes) := goodIn_app (goodIn_of _ (by decide +kernel)) ggX5_rename_X5_goes
set_option maxRecDepth 20000 in
theorem ggX5_rename_X5_gives : GoodIn wsX5_rename wsX5_gives := goodIn_r _ [21, 22, 23, 24, 25, 26, 27, 28, 29, 30, 31, 32, 33, 34, 35, 36, 37, 38, 39, 40] (by decide +kernel) (by decide +kernel)
set_option maxRecDepth 20000 in
theorem gX5_rename_X5_gives : GoodIn wsX5_rename (wsV RX5 93 RX5 yX5_gives wsX5_gives) := goodIn_app (goodIn_of _ (by decide +kernel)) ggX5_rename_X5_gives
theorem dX5_rename_0 : decode cX5_rename 0 = .ok (.aload_n 0, 1) := by decide +kernel
theorem dX5_rename_1 : decode cX5_rename 1 = .ok (.aload_n 0, 1) := by decide +kernel
theorem dX5_rename_2 : decode cX5_rename 2 = .ok (.iload_n 1, 1) := by decide +kernel
theorem dX5_rename_3 : decode cX5_rename 3 = .ok (.invokevirtual 97, 3) := by decide +kernel
theorem dX5_rename_6 : decode cX5_rename 6 = .ok (.iload_n 2, 1) := by decide +kernel
theorem dX5_rename_7 : decode cX5_rename 7 = .ok (.iload_n 3, 1) := by decide +kernel
theorem dX5_rename_8 : decode cX5_rename 8 = .ok (.invokestatic 90, 3) := by decide +kernel
theorem dX5_rename_11 : decode cX5_rename 11 = .ok (.iconst 1, 1) := by decide +kernel
theorem dX5_rename_12 : decode cX5_rename 12 = .ok (.invokevirtual 104, 3) := by decide +kernel
theorem dX5_rename_15 : decode cX5_rename 15 = .ok (.ifCond .eq 10, 3) := by decide +kernel
theorem dX5_rename_18 : decode cX5_rename 18 = .ok (.aload_n 0, 1) := by decide +kernel
theorem dX5_rename_19 : decode cX5_rename 19 = .ok (.iload_n 1, 1) := by decide +kernel
theorem dX5_rename_20 : decode cX5_rename 20 = .ok (.iload_n 2, 1) := by decide +kernel
theorem dX5_rename_21 : decode cX5_rename 21 = .ok (.iload_n 3, 1) := by decide +kernel
theorem dX5_rename_22 : decode cX5_rename 22 = .ok (.invokevirtual 93, 3) := by decide +kernel
theorem dX5_rename_25 : decode cX5_rename 25 = .ok (.return_, 1) := by decide +kernel
set_option maxRecDepth 20000 in
theorem ggX5_setKind_X5_in : GoodIn wsX5_setKind wsX5_in := goodIn_r _ [5] (by decide +kernel) (by decide +kernel)
set_option maxRecDepth 20000 in
theorem gX5_setKind_X5_in : GoodIn wsX5_setKind (va_wsS RX5 61 yX5_in wsX5_in) := goodIn_app (goodIn_of _ (by decide +kernel)) ggX5_setKind_X5_in
set_option maxRecDepth 20000 in
theorem ggX5_setKind_X5_goes : GoodIn wsX5_setKind wsX5_goes := goodIn_r _ [9, 10, 11, 12, 13, 14, 15, 16, 17, 18, 19, 20, 21, 22, 23, 24, 25, 26, 27] (by decide +kernel) (by decide +kernel)
set_option maxRecDepth 20000 in
theorem gX5_setKind_X5_goes : GoodIn wsX5_setKind (wsV RX5 104 RX5 yX5_goes wsX5_goes) := goodIn_app (goodIn_of _ (by decide +kernel)) ggX5_setKind_X5_goes
theorem dX5_setKind_0 : decode cX5_setKind 0 = .ok (.aload_n 0, 1) := by decide +kernel
theorem dX5_setKind_1 : decode cX5_setKind 1 = .ok (.iload_n 1, 1) := by decide +kernel
theorem dX5_setKind_2 : decode cX5_setKind 2 = .ok (.iconst 0, 1) := by decide +kernel
theorem dX5_setKind_3 : decode cX5_setKind 3 = .ok (.bipush 23, 2) := by decide +kernel
theorem dX5_setKind_5 : decode cX5_setKind 5 = .ok (.invokestatic 61, 3) := by decide +kernel
theorem dX5_setKind_8 : decode cX5_setKind 8 = .ok (.iload_n 2, 1) := by decide +kernel
theorem dX5_setKind_9 : decode cX5_setKind 9 = .ok (.iconst 0, 1) := by decide +kernel
theorem dX5_setKind_10 : decode cX5_setKind 10 = .ok (.iconst 2, 1) := by decide +kernel
theorem dX5_setKind_11 : decode cX5_setKind 11 = .ok (.invokestatic 61, 3) := by decide +kernel
theorem dX5_setKind_14 : decode cX5_setKind 14 = .ok (.iconst 1, 1) := by decide +kernel
theorem dX5_setKind_15 : decode cX5_setKind 15 = .ok (.invokevirtual 104, 3) := by decide +kernel
theorem dX5_setKind_18 : decode cX5_setKind 18 = .ok (.ifCond .ne 5, 3) := by decide +kernel
theorem dX5_setKind_21 : decode cX5_setKind 21 = .ok (.iconst 0, 1) := by decide +kernel
theorem dX5_setKind_22 : decode cX5_setKind 22 = .ok (.ireturn, 1) := by decide +kernel
theorem dX5_setKind_23 : decode cX5_setKind 23 = .ok (.aload_n 0, 1) := by decide +kernel
theorem dX5_setKind_24 : decode cX5_setKind 24 = .ok (.getfield 13, 3) := by decide +kernel
theorem dX5_setKind_27 : decode cX5_setKind 27 = .ok (.iload_n 1, 1) := by decide +kernel
theorem dX5_setKind_28 : decode cX5_setKind 28 = .ok (.iaload, 1) := by decide +kernel
theorem dX5_setKind_29 : decode cX5_setKind 29 = .ok (.istore_n 3, 1) := by decide +kernel
theorem dX5_setKind_30 : decode cX5_setKind 30 = .ok (.aload_n 0, 1) := by decide +kernel
theorem dX5_setKind_31 : decode cX5_setKind 31 = .ok (.getfield 13, 3) := by decide +kernel
theorem dX5_setKind_34 : decode cX5_setKind 34 = .ok (.iload_n 1, 1) := by decide +kernel
theorem dX5_setKind_35 : decode cX5_setKind 35 = .ok (.iload_n 2, 1) := by decide +kernel
theorem dX5_setKind_36 : decode cX5_setKind 36 = .ok (.iastore, 1) := by decide +kernel
theorem dX5_setKind_37 : decode cX5_setKind 37 = .ok (.iload_n 3, 1) := by decide +kernel
theorem dX5_setKind_38 : decode cX5_setKind 38 = .ok (.ireturn, 1) := by decide +kernel
theorem dX5_streets_0 : decode cX5_streets 0 = .ok (.aload_n 0, 1) := by decide +kernel
theorem dX5_streets_1 : decode cX5_streets 1 = .ok (.iconst 0, 1) := by decide +kernel
theorem dX5_streets_2 : decode cX5_streets 2 = .ok (.putfield 54, 3) := by decide +kernel
theorem dX5_streets_5 : decode cX5_streets 5 = .ok (.aload_n 0, 1) := by decide +kernel
theorem dX5_streets_6 : decode cX5_streets 6 = .ok (.getfield 58, 3) := by decide +kernel
theorem dX5_streets_9 : decode cX5_streets 9 = .ok (.ireturn, 1) := by decide +kernel
set_option maxRecDepth 20000 in
theorem ggX5_streetAt_X5_in : GoodIn wsX5_streetAt wsX5_in := goodIn_r _ [5] (by decide +kernel) (by decide +kernel)
set_option maxRecDepth 20000 in
theorem gX5_streetAt_X5_in : GoodIn wsX5_streetAt (va_wsS RX5 61 yX5_in wsX5_in) := goodIn_app (goodIn_of _ (by decide +kernel)) ggX5_streetAt_X5_in
set_option maxRecDepth 20000 in
theorem ggX5_streetAt_X5_goes : GoodIn wsX5_streetAt wsX5_goes := goodIn_r _ [9, 10, 37, 38, 39, 40, 41, 42, 43, 44, 45, 46, 47, 48, 49, 50, 51, 52, 53] (by decide +kernel) (by decide +kernel)
set_option maxRecDepth 20000 in
theorem gX5_streetAt_X5_goes : GoodIn wsX5_streetAt (wsV RX5 104 RX5 yX5_goes wsX5_goes) := goodIn_app (goodIn_of _ (by decide +kernel)) ggX5_streetAt_X5_goes
set_option maxRecDepth 20000 in
theorem ggX5_streetAt_X5_countAhead : GoodIn wsX5_streetAt wsX5_countAhead := goodIn_r _ [14, 1, 15, 16, 17, 4, 18, 19, 20, 21, 22, 23, 24, 25, 26, 27, 28, 29, 30, 31, 32, 33, 34, 35, 36, 37, 38, 39, 40, 41, 42, 43, 44, 45, 46, 47, 48, 49, 50, 51, 52, 53] (by decide +kernel) (by decide +kernel)
set_option maxRecDepth 20000 in
theorem gX5_streetAt_X5_countAhead : GoodIn wsX5_streetAt (wsV RX5 112 RX5 yX5_countAhead wsX5_countAhead) := goodIn_app (goodIn_of _ (by decide +kernel)) ggX5_streetAt_X5_countAhead
theorem dX5_streetAt_0 : decode cX5_streetAt 0 = .ok (.iconst 0, 1) := by decide +kernel
theorem dX5_streetAt_1 : decode cX5_streetAt 1 = .ok (.istore_n 2, 1) := by decide +kernel
theorem dX5_streetAt_2 : decode cX5_streetAt 2 = .ok (.aload_n 0, 1) := by decide +kernel
theorem dX5_streetAt_3 : decode cX5_streetAt 3 = .ok (.iload_n 1, 1) := by decide +kernel
theorem dX5_streetAt_4 : decode cX5_streetAt 4 = .ok (.iconst 0, 1) := by decide +kernel
theorem dX5_streetAt_5 : decode cX5_streetAt 5 = .ok (.aload_n 0, 1) := by decide +kernel
theorem dX5_streetAt_6 : decode cX5_streetAt 6 = .ok (.getfield 58, 3) := by decide +kernel
theorem dX5_streetAt_9 : decode cX5_streetAt 9 = .ok (.iconst 1, 1) := by decide +kernel
theorem dX5_streetAt_10 : decode cX5_streetAt 10 = .ok (.isub, 1) := by decide +kernel
theorem dX5_streetAt_11 : decode cX5_streetAt 11 = .ok (.invokestatic 61, 3) := by decide +kernel
theorem dX5_streetAt_14 : decode cX5_streetAt 14 = .ok (.iconst 1, 1) := by decide +kernel
theorem dX5_streetAt_15 : decode cX5_streetAt 15 = .ok (.iconst 1, 1) := by decide +kernel
theorem dX5_streetAt_16 : decode cX5_streetAt 16 = .ok (.invokevirtual 104, 3) := by decide +kernel
theorem dX5_streetAt_19 : decode cX5_streetAt 19 = .ok (.ifCond .eq 18, 3) := by decide +kernel
theorem dX5_streetAt_22 : decode cX5_streetAt 22 = .ok (.aload_n 0, 1) := by decide +kernel
theorem dX5_streetAt_23 : decode cX5_streetAt 23 = .ok (.iload_n 2, 1) := by decide +kernel
theorem dX5_streetAt_24 : decode cX5_streetAt 24 = .ok (.invokevirtual 112, 3) := by decide +kernel
theorem dX5_streetAt_27 : decode cX5_streetAt 27 = .ok (.iload_n 1, 1) := by decide +kernel
theorem dX5_streetAt_28 : decode cX5_streetAt 28 = .ok (.if_icmp .eq 9, 3) := by decide +kernel
theorem dX5_streetAt_31 : decode cX5_streetAt 31 = .ok (.iinc 2 1, 3) := by decide +kernel
theorem dX5_streetAt_34 : decode cX5_streetAt 34 = .ok (.goto (-12), 3) := by decide +kernel
theorem dX5_streetAt_37 : decode cX5_streetAt 37 = .ok (.iload_n 2, 1) := by decide +kernel
theorem dX5_streetAt_38 : decode cX5_streetAt 38 = .ok (.ireturn, 1) := by decide +kernel
set_option maxRecDepth 20000 in
theorem ggX5_placeOf_X5_isStreet : GoodIn wsX5_placeOf wsX5_isStreet := goodIn_r _ [5, 6, 7, 8, 4, 9, 41, 42, 43, 44, 45, 46, 47, 48, 49, 50, 51, 52, 53, 54, 55, 56, 57] (by decide +kernel) (by decide +kernel)
set_option maxRecDepth 20000 in
theorem gX5_placeOf_X5_isStreet : GoodIn wsX5_placeOf (wsV RX5 97 RX5 yX5_isStreet wsX5_isStreet) := goodIn_app (goodIn_of _ (by decide +kernel)) ggX5_placeOf_X5_isStreet
set_option maxRecDepth 20000 in
theorem ggX5_placeOf_X5_goes : GoodIn wsX5_placeOf wsX5_goes := goodIn_r _ [13, 14, 41, 42, 43, 44, 45, 46, 47, 48, 49, 50, 51, 52, 53, 54, 55, 56, 57] (by decide +kernel) (by decide +kernel)
set_option maxRecDepth 20000 in
theorem gX5_placeOf_X5_goes : GoodIn wsX5_placeOf (wsV RX5 104 RX5 yX5_goes wsX5_goes) := goodIn_app (goodIn_of _ (by decide +kernel)) ggX5_placeOf_X5_goes
set_option maxRecDepth 20000 in
theorem ggX5_placeOf_X5_countAhead : GoodIn wsX5_placeOf wsX5_countAhead := goodIn_r _ [18, 6, 19, 20, 21, 4, 22, 23, 24, 25, 26, 27, 28, 29, 30, 31, 32, 33, 34, 35, 36, 37, 38, 39, 40, 41, 42, 43, 44, 45, 46, 47, 48, 49, 50, 51, 52, 53, 54, 55, 56, 57] (by decide +kernel) (by decide +kernel)
set_option maxRecDepth 20000 in
theorem gX5_placeOf_X5_countAhead : GoodIn wsX5_placeOf (wsV RX5 112 RX5 yX5_countAhead wsX5_countAhead) := goodIn_app (goodIn_of _ (by decide +kernel)) ggX5_placeOf_X5_countAhead
theorem dX5_placeOf_0 : decode cX5_placeOf 0 = .ok (.aload_n 0, 1) := by decide +kernel
theorem dX5_placeOf_1 : decode cX5_placeOf 1 = .ok (.aload_n 0, 1) := by decide +kernel
theorem dX5_placeOf_2 : decode cX5_placeOf 2 = .ok (.iload_n 1, 1) := by decide +kernel
theorem dX5_placeOf_3 : decode cX5_placeOf 3 = .ok (.invokevirtual 97, 3) := by decide +kernel
theorem dX5_placeOf_6 : decode cX5_placeOf 6 = .ok (.iconst 1, 1) := by decide +kernel
theorem dX5_placeOf_7 : decode cX5_placeOf 7 = .ok (.iconst 1, 1) := by decide +kernel
theorem dX5_placeOf_8 : decode cX5_placeOf 8 = .ok (.invokevirtual 104, 3) := by decide +kernel
theorem dX5_placeOf_11 : decode cX5_placeOf 11 = .ok (.ifCond .eq 11, 3) := by decide +kernel
theorem dX5_placeOf_14 : decode cX5_placeOf 14 = .ok (.aload_n 0, 1) := by decide +kernel
theorem dX5_placeOf_15 : decode cX5_placeOf 15 = .ok (.iload_n 1, 1) := by decide +kernel
theorem dX5_placeOf_16 : decode cX5_placeOf 16 = .ok (.invokevirtual 112, 3) := by decide +kernel
theorem dX5_placeOf_19 : decode cX5_placeOf 19 = .ok (.goto 4, 3) := by decide +kernel
theorem dX5_placeOf_22 : decode cX5_placeOf 22 = .ok (.iconst 0, 1) := by decide +kernel
theorem dX5_placeOf_23 : decode cX5_placeOf 23 = .ok (.ireturn, 1) := by decide +kernel
set_option maxRecDepth 20000 in
theorem ggX5_compareKeys_X5_isStreet : GoodIn wsX5_compareKeys wsX5_isStreet := goodIn_r _ [5, 6, 7, 8, 4, 9, 33, 34, 35, 36, 37, 38, 39, 40, 41, 42, 43, 44, 45, 46, 47, 48, 49] (by decide +kernel) (by decide +kernel)
set_option maxRecDepth 20000 in
theorem gX5_compareKeys_X5_isStreet : GoodIn wsX5_compareKeys (wsV RX5 97 RX5 yX5_isStreet wsX5_isStreet) := goodIn_app (goodIn_of _ (by decide +kernel)) ggX5_compareKeys_X5_isStreet
set_option maxRecDepth 20000 in
theorem ggX5_compareKeys_X5_goes : GoodIn wsX5_compareKeys wsX5_goes := goodIn_r _ [13, 14, 33, 34, 35, 36, 37, 38, 39, 40, 41, 42, 43, 44, 45, 46, 47, 48, 49] (by decide +kernel) (by decide +kernel)
set_option maxRecDepth 20000 in
theorem gX5_compareKeys_X5_goes : GoodIn wsX5_compareKeys (wsV RX5 104 RX5 yX5_goes wsX5_goes) := goodIn_app (goodIn_of _ (by decide +kernel)) ggX5_compareKeys_X5_goes
set_option maxRecDepth 20000 in
theorem ggX5_compareKeys_X5_compareOf : GoodIn wsX5_compareKeys wsX5_compareOf := goodIn_r _ [18, 19, 20, 21, 22, 23, 4, 24, 25, 26, 27, 28, 29, 30, 31, 32, 33, 34, 35, 36, 37, 38, 39, 40, 41, 42, 43, 44, 45, 46, 47, 48, 49] (by decide +kernel) (by decide +kernel)
set_option maxRecDepth 20000 in
theorem gX5_compareKeys_X5_compareOf : GoodIn wsX5_compareKeys (wsV RX5 73 RX5 yX5_compareOf wsX5_compareOf) := goodIn_app (goodIn_of _ (by decide +kernel)) ggX5_compareKeys_X5_compareOf
theorem dX5_compareKeys_0 : decode cX5_compareKeys 0 = .ok (.aload_n 0, 1) := by decide +kernel
theorem dX5_compareKeys_1 : decode cX5_compareKeys 1 = .ok (.aload_n 0, 1) := by decide +kernel
theorem dX5_compareKeys_2 : decode cX5_compareKeys 2 = .ok (.iload_n 1, 1) := by decide +kernel
theorem dX5_compareKeys_3 : decode cX5_compareKeys 3 = .ok (.invokevirtual 97, 3) := by decide +kernel
theorem dX5_compareKeys_6 : decode cX5_compareKeys 6 = .ok (.ifCond .eq 15, 3) := by decide +kernel
theorem dX5_compareKeys_9 : decode cX5_compareKeys 9 = .ok (.aload_n 0, 1) := by decide +kernel
theorem dX5_compareKeys_10 : decode cX5_compareKeys 10 = .ok (.iload_n 2, 1) := by decide +kernel
theorem dX5_compareKeys_11 : decode cX5_compareKeys 11 = .ok (.invokevirtual 97, 3) := by decide +kernel
theorem dX5_compareKeys_14 : decode cX5_compareKeys 14 = .ok (.ifCond .eq 7, 3) := by decide +kernel
theorem dX5_compareKeys_17 : decode cX5_compareKeys 17 = .ok (.iconst 1, 1) := by decide +kernel
theorem dX5_compareKeys_18 : decode cX5_compareKeys 18 = .ok (.goto 4, 3) := by decide +kernel
theorem dX5_compareKeys_21 : decode cX5_compareKeys 21 = .ok (.iconst 0, 1) := by decide +kernel
theorem dX5_compareKeys_22 : decode cX5_compareKeys 22 = .ok (.iconst 1, 1) := by decide +kernel
theorem dX5_compareKeys_23 : decode cX5_compareKeys 23 = .ok (.iconst 1, 1) := by decide +kernel
theorem dX5_compareKeys_24 : decode cX5_compareKeys 24 = .ok (.invokevirtual 104, 3) := by decide +kernel
theorem dX5_compareKeys_27 : decode cX5_compareKeys 27 = .ok (.ifCond .eq 12, 3) := by decide +kernel
theorem dX5_compareKeys_30 : decode cX5_compareKeys 30 = .ok (.aload_n 0, 1) := by decide +kernel
theorem dX5_compareKeys_31 : decode cX5_compareKeys 31 = .ok (.iload_n 1, 1) := by decide +kernel
theorem dX5_compareKeys_32 : decode cX5_compareKeys 32 = .ok (.iload_n 2, 1) := by decide +kernel
theorem dX5_compareKeys_33 : decode cX5_compareKeys 33 = .ok (.invokevirtual 73, 3) := by decide +kernel
theorem dX5_compareKeys_36 : decode cX5_compareKeys 36 = .ok (.goto 4, 3) := by decide +kernel
theorem dX5_compareKeys_39 : decode cX5_compareKeys 39 = .ok (.iconst 0, 1) := by decide +kernel
theorem dX5_compareKeys_40 : decode cX5_compareKeys 40 = .ok (.ireturn, 1) := by decide +kernel
theorem dX5_sign_0 : decode cX5_sign 0 = .ok (.aload_n 0, 1) := by decide +kernel
theorem dX5_sign_1 : decode cX5_sign 1 = .ok (.getfield 44, 3) := by decide +kernel
theorem dX5_sign_4 : decode cX5_sign 4 = .ok (.aload_n 0, 1) := by decide +kernel
theorem dX5_sign_5 : decode cX5_sign 5 = .ok (.getfield 115, 3) := by decide +kernel
theorem dX5_sign_8 : decode cX5_sign 8 = .ok (.iload_n 1, 1) := by decide +kernel
theorem dX5_sign_9 : decode cX5_sign 9 = .ok (.iastore, 1) := by decide +kernel
theorem dX5_sign_10 : decode cX5_sign 10 = .ok (.aload_n 0, 1) := by decide +kernel
theorem dX5_sign_11 : decode cX5_sign 11 = .ok (.dup, 1) := by decide +kernel
theorem dX5_sign_12 : decode cX5_sign 12 = .ok (.getfield 115, 3) := by decide +kernel
theorem dX5_sign_15 : decode cX5_sign 15 = .ok (.iconst 1, 1) := by decide +kernel
theorem dX5_sign_16 : decode cX5_sign 16 = .ok (.iadd, 1) := by decide +kernel
theorem dX5_sign_17 : decode cX5_sign 17 = .ok (.putfield 115, 3) := by decide +kernel
theorem dX5_sign_20 : decode cX5_sign 20 = .ok (.return_, 1) := by decide +kernel
set_option maxRecDepth 20000 in
theorem ggX5_writes_X5_sign : GoodIn wsX5_writes wsX5_sign := goodIn_r _ [9, 10, 11, 12, 13, 14, 15, 16, 17, 18, 19, 20, 21, 22, 23, 24, 25, 26, 27, 28] (by decide +kernel) (by decide +kernel)
set_option maxRecDepth 20000 in
theorem gX5_writes_X5_sign : GoodIn wsX5_writes (wsV RX5 118 RX5 yX5_sign wsX5_sign) := goodIn_app (goodIn_of _ (by decide +kernel)) ggX5_writes_X5_sign
theorem dX5_writes_0 : decode cX5_writes 0 = .ok (.iconst 0, 1) := by decide +kernel
theorem dX5_writes_1 : decode cX5_writes 1 = .ok (.istore 4, 2) := by decide +kernel
theorem dX5_writes_3 : decode cX5_writes 3 = .ok (.iconst 0, 1) := by decide +kernel
theorem dX5_writes_4 : decode cX5_writes 4 = .ok (.istore 5, 2) := by decide +kernel
theorem dX5_writes_6 : decode cX5_writes 6 = .ok (.iload 5, 2) := by decide +kernel
theorem dX5_writes_8 : decode cX5_writes 8 = .ok (.aload_n 0, 1) := by decide +kernel
theorem dX5_writes_9 : decode cX5_writes 9 = .ok (.getfield 19, 3) := by decide +kernel
theorem dX5_writes_12 : decode cX5_writes 12 = .ok (.iload_n 1, 1) := by decide +kernel
theorem dX5_writes_13 : decode cX5_writes 13 = .ok (.iaload, 1) := by decide +kernel
theorem dX5_writes_14 : decode cX5_writes 14 = .ok (.if_icmp .ge 102, 3) := by decide +kernel
theorem dX5_writes_17 : decode cX5_writes 17 = .ok (.aload_n 0, 1) := by decide +kernel
theorem dX5_writes_18 : decode cX5_writes 18 = .ok (.getfield 16, 3) := by decide +kernel
theorem dX5_writes_21 : decode cX5_writes 21 = .ok (.iconst 4, 1) := by decide +kernel
theorem dX5_writes_22 : decode cX5_writes 22 = .ok (.iload_n 1, 1) := by decide +kernel
theorem dX5_writes_23 : decode cX5_writes 23 = .ok (.imul, 1) := by decide +kernel
theorem dX5_writes_24 : decode cX5_writes 24 = .ok (.iload 5, 2) := by decide +kernel
theorem dX5_writes_26 : decode cX5_writes 26 = .ok (.iadd, 1) := by decide +kernel
theorem dX5_writes_27 : decode cX5_writes 27 = .ok (.iaload, 1) := by decide +kernel
theorem dX5_writes_28 : decode cX5_writes 28 = .ok (.istore 6, 2) := by decide +kernel
theorem dX5_writes_30 : decode cX5_writes 30 = .ok (.iload_n 3, 1) := by decide +kernel
theorem dX5_writes_31 : decode cX5_writes 31 = .ok (.ifCond .ne 23, 3) := by decide +kernel
theorem dX5_writes_34 : decode cX5_writes 34 = .ok (.aload_n 0, 1) := by decide +kernel
theorem dX5_writes_35 : decode cX5_writes 35 = .ok (.getfield 13, 3) := by decide +kernel
theorem dX5_writes_38 : decode cX5_writes 38 = .ok (.iload 6, 2) := by decide +kernel
theorem dX5_writes_40 : decode cX5_writes 40 = .ok (.iaload, 1) := by decide +kernel
theorem dX5_writes_41 : decode cX5_writes 41 = .ok (.iconst 2, 1) := by decide +kernel
theorem dX5_writes_42 : decode cX5_writes 42 = .ok (.if_icmp .ne 7, 3) := by decide +kernel
theorem dX5_writes_45 : decode cX5_writes 45 = .ok (.iconst 1, 1) := by decide +kernel
theorem dX5_writes_46 : decode cX5_writes 46 = .ok (.goto 4, 3) := by decide +kernel
theorem dX5_writes_49 : decode cX5_writes 49 = .ok (.iconst 0, 1) := by decide +kernel
theorem dX5_writes_50 : decode cX5_writes 50 = .ok (.iload_n 2, 1) := by decide +kernel
theorem dX5_writes_51 : decode cX5_writes 51 = .ok (.if_icmp .ne 59, 3) := by decide +kernel
theorem dX5_writes_54 : decode cX5_writes 54 = .ok (.iload 4, 2) := by decide +kernel
theorem dX5_writes_56 : decode cX5_writes 56 = .ok (.ifCond .le 9, 3) := by decide +kernel
theorem dX5_writes_59 : decode cX5_writes 59 = .ok (.aload_n 0, 1) := by decide +kernel
theorem dX5_writes_60 : decode cX5_writes 60 = .ok (.bipush 32, 2) := by decide +kernel
theorem dX5_writes_62 : decode cX5_writes 62 = .ok (.invokevirtual 118, 3) := by decide +kernel
theorem dX5_writes_65 : decode cX5_writes 65 = .ok (.iconst 0, 1) := by decide +kernel
theorem dX5_writes_66 : decode cX5_writes 66 = .ok (.istore 7, 2) := by decide +kernel
theorem dX5_writes_68 : decode cX5_writes 68 = .ok (.aload_n 0, 1) := by decide +kernel
theorem dX5_writes_69 : decode cX5_writes 69 = .ok (.getfield 7, 3) := by decide +kernel
theorem dX5_writes_72 : decode cX5_writes 72 = .ok (.bipush 8, 2) := by decide +kernel
theorem dX5_writes_74 : decode cX5_writes 74 = .ok (.iload 6, 2) := by decide +kernel
theorem dX5_writes_76 : decode cX5_writes 76 = .ok (.imul, 1) := by decide +kernel
theorem dX5_writes_77 : decode cX5_writes 77 = .ok (.iload 7, 2) := by decide +kernel
theorem dX5_writes_79 : decode cX5_writes 79 = .ok (.iadd, 1) := by decide +kernel
theorem dX5_writes_80 : decode cX5_writes 80 = .ok (.iaload, 1) := by decide +kernel
theorem dX5_writes_81 : decode cX5_writes 81 = .ok (.ifCond .le 26, 3) := by decide +kernel
theorem dX5_writes_84 : decode cX5_writes 84 = .ok (.aload_n 0, 1) := by decide +kernel
theorem dX5_writes_85 : decode cX5_writes 85 = .ok (.aload_n 0, 1) := by decide +kernel
theorem dX5_writes_86 : decode cX5_writes 86 = .ok (.getfield 7, 3) := by decide +kernel
theorem dX5_writes_89 : decode cX5_writes 89 = .ok (.bipush 8, 2) := by decide +kernel
theorem dX5_writes_91 : decode cX5_writes 91 = .ok (.iload 6, 2) := by decide +kernel
theorem dX5_writes_93 : decode cX5_writes 93 = .ok (.imul, 1) := by decide +kernel
theorem dX5_writes_94 : decode cX5_writes 94 = .ok (.iload 7, 2) := by decide +kernel
theorem dX5_writes_96 : decode cX5_writes 96 = .ok (.iadd, 1) := by decide +kernel
theorem dX5_writes_97 : decode cX5_writes 97 = .ok (.iaload, 1) := by decide +kernel
theorem dX5_writes_98 : decode cX5_writes 98 = .ok (.invokevirtual 118, 3) := by decide +kernel
theorem dX5_writes_101 : decode cX5_writes 101 = .ok (.iinc 7 1, 3) := by decide +kernel
theorem dX5_writes_104 : decode cX5_writes 104 = .ok (.goto (-36), 3) := by decide +kernel
theorem dX5_writes_107 : decode cX5_writes 107 = .ok (.iinc 4 1, 3) := by decide +kernel
theorem dX5_writes_110 : decode cX5_writes 110 = .ok (.iinc 5 1, 3) := by decide +kernel
theorem dX5_writes_113 : decode cX5_writes 113 = .ok (.goto (-107), 3) := by decide +kernel
theorem dX5_writes_116 : decode cX5_writes 116 = .ok (.return_, 1) := by decide +kernel
set_option maxRecDepth 20000 in
theorem ggX5_number_X5_sign : GoodIn wsX5_number wsX5_sign := goodIn_r _ [5, 6, 7, 8, 9, 10, 11, 12, 13, 14, 15, 16, 17, 18, 19, 20, 21, 22, 23, 24] (by decide +kernel) (by decide +kernel)
set_option maxRecDepth 20000 in
theorem gX5_number_X5_sign : GoodIn wsX5_number (wsV RX5 118 RX5 yX5_sign wsX5_sign) := goodIn_app (goodIn_of _ (by decide +kernel)) ggX5_number_X5_sign
theorem dX5_number_0 : decode cX5_number 0 = .ok (.iload_n 1, 1) := by decide +kernel
theorem dX5_number_1 : decode cX5_number 1 = .ok (.bipush 9, 2) := by decide +kernel
theorem dX5_number_3 : decode cX5_number 3 = .ok (.if_icmp .le 14, 3) := by decide +kernel
theorem dX5_number_6 : decode cX5_number 6 = .ok (.aload_n 0, 1) := by decide +kernel
theorem dX5_number_7 : decode cX5_number 7 = .ok (.bipush 48, 2) := by decide +kernel
theorem dX5_number_9 : decode cX5_number 9 = .ok (.iload_n 1, 1) := by decide +kernel
theorem dX5_number_10 : decode cX5_number 10 = .ok (.bipush 10, 2) := by decide +kernel
theorem dX5_number_12 : decode cX5_number 12 = .ok (.idiv, 1) := by decide +kernel
theorem dX5_number_13 : decode cX5_number 13 = .ok (.iadd, 1) := by decide +kernel
theorem dX5_number_14 : decode cX5_number 14 = .ok (.invokevirtual 118, 3) := by decide +kernel
theorem dX5_number_17 : decode cX5_number 17 = .ok (.aload_n 0, 1) := by decide +kernel
theorem dX5_number_18 : decode cX5_number 18 = .ok (.bipush 48, 2) := by decide +kernel
theorem dX5_number_20 : decode cX5_number 20 = .ok (.iload_n 1, 1) := by decide +kernel
theorem dX5_number_21 : decode cX5_number 21 = .ok (.bipush 10, 2) := by decide +kernel
theorem dX5_number_23 : decode cX5_number 23 = .ok (.irem, 1) := by decide +kernel
theorem dX5_number_24 : decode cX5_number 24 = .ok (.iadd, 1) := by decide +kernel
theorem dX5_number_25 : decode cX5_number 25 = .ok (.invokevirtual 118, 3) := by decide +kernel
theorem dX5_number_28 : decode cX5_number 28 = .ok (.return_, 1) := by decide +kernel
set_option maxRecDepth 20000 in
theorem ggX5_writeLine_X5_writes : GoodIn wsX5_writeLine wsX5_writes := goodIn_r _ [11, 2, 4, 3, 12, 13, 14, 15, 10, 16, 17, 1, 36, 37, 38, 39, 40, 41, 42, 43, 44, 45, 46, 47, 48, 49, 50, 51, 52] (by decide +kernel) (by decide +kernel)
set_option maxRecDepth 20000 in
theorem gX5_writeLine_X5_writes : GoodIn wsX5_writeLine (wsV RX5 121 RX5 yX5_writes wsX5_writes) := goodIn_app (goodIn_of _ (by decide +kernel)) ggX5_writeLine_X5_writes
set_option maxRecDepth 20000 in
theorem ggX5_writeLine_X5_sign : GoodIn wsX5_writeLine wsX5_sign := goodIn_r _ [16, 17, 1, 36, 37, 38, 39, 40, 41, 42, 43, 44, 45, 46, 47, 48, 49, 50, 51, 52] (by decide +kernel) (by decide +kernel)
set_option maxRecDepth 20000 in
theorem gX5_writeLine_X5_sign : GoodIn wsX5_writeLine (wsV RX5 118 RX5 yX5_sign wsX5_sign) := goodIn_app (goodIn_of _ (by decide +kernel)) ggX5_writeLine_X5_sign
set_option maxRecDepth 20000 in
theorem ggX5_writeLine_X5_tracks : GoodIn wsX5_writeLine wsX5_tracks := goodIn_r _ [21, 5, 6, 22, 23, 24, 25, 26, 10, 27, 36, 37, 38, 39, 40, 41, 42, 43, 44, 45, 46, 47, 48, 49, 50, 51, 52] (by decide +kernel) (by decide +kernel)
set_option maxRecDepth 20000 in
theorem gX5_writeLine_X5_tracks : GoodIn wsX5_writeLine (wsV RX5 86 RX5 yX5_tracks wsX5_tracks) := goodIn_app (goodIn_of _ (by decide +kernel)) ggX5_writeLine_X5_tracks
set_option maxRecDepth 20000 in
theorem ggX5_writeLine_X5_beginsRun : GoodIn wsX5_writeLine wsX5_beginsRun := goodIn_r _ [31, 6, 36, 37, 38, 39, 40, 41, 42, 43, 44, 45, 46, 47, 48, 49, 50, 51, 52] (by decide +kernel) (by decide +kernel)
set_option maxRecDepth 20000 in
theorem gX5_writeLine_X5_beginsRun : GoodIn wsX5_writeLine (wsV RX5 125 RX5 yX5_beginsRun wsX5_beginsRun) := goodIn_app (goodIn_of _ (by decide +kernel)) ggX5_writeLine_X5_beginsRun
set_option maxRecDepth 20000 in
theorem ggX5_writeLine_X5_number : GoodIn wsX5_writeLine wsX5_number := goodIn_r _ [35, 13, 14, 15, 10, 16, 17, 1, 36, 37, 38, 39, 40, 41, 42, 43, 44, 45, 46, 47, 48, 49, 50, 51, 52] (by decide +kernel) (by decide +kernel)
set_option maxRecDepth 20000 in
theorem gX5_writeLine_X5_number : GoodIn wsX5_writeLine (wsV RX5 128 RX5 yX5_number wsX5_number) := goodIn_app (goodIn_of _ (by decide +kernel)) ggX5_writeLine_X5_number
theorem dX5_writeLine_0 : decode cX5_writeLine 0 = .ok (.aload_n 0, 1) := by decide +kernel
theorem dX5_writeLine_1 : decode cX5_writeLine 1 = .ok (.iconst 0, 1) := by decide +kernel
theorem dX5_writeLine_2 : decode cX5_writeLine 2 = .ok (.putfield 115, 3) := by decide +kernel
theorem dX5_writeLine_5 : decode cX5_writeLine 5 = .ok (.iconst 0, 1) := by decide +kernel
theorem dX5_writeLine_6 : decode cX5_writeLine 6 = .ok (.istore_n 2, 1) := by decide +kernel
theorem dX5_writeLine_7 : decode cX5_writeLine 7 = .ok (.iconst 0, 1) := by decide +kernel
theorem dX5_writeLine_8 : decode cX5_writeLine 8 = .ok (.istore_n 3, 1) := by decide +kernel
theorem dX5_writeLine_9 : decode cX5_writeLine 9 = .ok (.iload_n 3, 1) := by decide +kernel
theorem dX5_writeLine_10 : decode cX5_writeLine 10 = .ok (.aload_n 0, 1) := by decide +kernel
theorem dX5_writeLine_11 : decode cX5_writeLine 11 = .ok (.getfield 19, 3) := by decide +kernel
theorem dX5_writeLine_14 : decode cX5_writeLine 14 = .ok (.iload_n 1, 1) := by decide +kernel
theorem dX5_writeLine_15 : decode cX5_writeLine 15 = .ok (.iaload, 1) := by decide +kernel
theorem dX5_writeLine_16 : decode cX5_writeLine 16 = .ok (.if_icmp .ge 36, 3) := by decide +kernel
theorem dX5_writeLine_19 : decode cX5_writeLine 19 = .ok (.iload_n 2, 1) := by decide +kernel
theorem dX5_writeLine_20 : decode cX5_writeLine 20 = .ok (.aload_n 0, 1) := by decide +kernel
theorem dX5_writeLine_21 : decode cX5_writeLine 21 = .ok (.getfield 13, 3) := by decide +kernel
theorem dX5_writeLine_24 : decode cX5_writeLine 24 = .ok (.aload_n 0, 1) := by decide +kernel
theorem dX5_writeLine_25 : decode cX5_writeLine 25 = .ok (.getfield 16, 3) := by decide +kernel
theorem dX5_writeLine_28 : decode cX5_writeLine 28 = .ok (.iconst 4, 1) := by decide +kernel
theorem dX5_writeLine_29 : decode cX5_writeLine 29 = .ok (.iload_n 1, 1) := by decide +kernel
theorem dX5_writeLine_30 : decode cX5_writeLine 30 = .ok (.imul, 1) := by decide +kernel
theorem dX5_writeLine_31 : decode cX5_writeLine 31 = .ok (.iload_n 3, 1) := by decide +kernel
theorem dX5_writeLine_32 : decode cX5_writeLine 32 = .ok (.iadd, 1) := by decide +kernel
theorem dX5_writeLine_33 : decode cX5_writeLine 33 = .ok (.iaload, 1) := by decide +kernel
theorem dX5_writeLine_34 : decode cX5_writeLine 34 = .ok (.iaload, 1) := by decide +kernel
theorem dX5_writeLine_35 : decode cX5_writeLine 35 = .ok (.iconst 2, 1) := by decide +kernel
theorem dX5_writeLine_36 : decode cX5_writeLine 36 = .ok (.if_icmp .ne 7, 3) := by decide +kernel
theorem dX5_writeLine_39 : decode cX5_writeLine 39 = .ok (.iconst 1, 1) := by decide +kernel
theorem dX5_writeLine_40 : decode cX5_writeLine 40 = .ok (.goto 4, 3) := by decide +kernel
theorem dX5_writeLine_43 : decode cX5_writeLine 43 = .ok (.iconst 0, 1) := by decide +kernel
theorem dX5_writeLine_44 : decode cX5_writeLine 44 = .ok (.iadd, 1) := by decide +kernel
theorem dX5_writeLine_45 : decode cX5_writeLine 45 = .ok (.istore_n 2, 1) := by decide +kernel
theorem dX5_writeLine_46 : decode cX5_writeLine 46 = .ok (.iinc 3 1, 3) := by decide +kernel
theorem dX5_writeLine_49 : decode cX5_writeLine 49 = .ok (.goto (-40), 3) := by decide +kernel
theorem dX5_writeLine_52 : decode cX5_writeLine 52 = .ok (.iload_n 2, 1) := by decide +kernel
theorem dX5_writeLine_53 : decode cX5_writeLine 53 = .ok (.ifCond .eq 13, 3) := by decide +kernel
theorem dX5_writeLine_56 : decode cX5_writeLine 56 = .ok (.iload_n 2, 1) := by decide +kernel
theorem dX5_writeLine_57 : decode cX5_writeLine 57 = .ok (.aload_n 0, 1) := by decide +kernel
theorem dX5_writeLine_58 : decode cX5_writeLine 58 = .ok (.getfield 19, 3) := by decide +kernel
theorem dX5_writeLine_61 : decode cX5_writeLine 61 = .ok (.iload_n 1, 1) := by decide +kernel
theorem dX5_writeLine_62 : decode cX5_writeLine 62 = .ok (.iaload, 1) := by decide +kernel
theorem dX5_writeLine_63 : decode cX5_writeLine 63 = .ok (.if_icmp .ne 7, 3) := by decide +kernel
theorem dX5_writeLine_66 : decode cX5_writeLine 66 = .ok (.iconst 1, 1) := by decide +kernel
theorem dX5_writeLine_67 : decode cX5_writeLine 67 = .ok (.goto 4, 3) := by decide +kernel
theorem dX5_writeLine_70 : decode cX5_writeLine 70 = .ok (.iconst 0, 1) := by decide +kernel
theorem dX5_writeLine_71 : decode cX5_writeLine 71 = .ok (.istore_n 3, 1) := by decide +kernel
theorem dX5_writeLine_72 : decode cX5_writeLine 72 = .ok (.aload_n 0, 1) := by decide +kernel
theorem dX5_writeLine_73 : decode cX5_writeLine 73 = .ok (.iload_n 1, 1) := by decide +kernel
theorem dX5_writeLine_74 : decode cX5_writeLine 74 = .ok (.iconst 0, 1) := by decide +kernel
theorem dX5_writeLine_75 : decode cX5_writeLine 75 = .ok (.iload_n 3, 1) := by decide +kernel
theorem dX5_writeLine_76 : decode cX5_writeLine 76 = .ok (.invokevirtual 121, 3) := by decide +kernel
theorem dX5_writeLine_79 : decode cX5_writeLine 79 = .ok (.iload_n 3, 1) := by decide +kernel
theorem dX5_writeLine_80 : decode cX5_writeLine 80 = .ok (.ifCond .ne 22, 3) := by decide +kernel
theorem dX5_writeLine_83 : decode cX5_writeLine 83 = .ok (.aload_n 0, 1) := by decide +kernel
theorem dX5_writeLine_84 : decode cX5_writeLine 84 = .ok (.bipush 44, 2) := by decide +kernel
theorem dX5_writeLine_86 : decode cX5_writeLine 86 = .ok (.invokevirtual 118, 3) := by decide +kernel
theorem dX5_writeLine_89 : decode cX5_writeLine 89 = .ok (.aload_n 0, 1) := by decide +kernel
theorem dX5_writeLine_90 : decode cX5_writeLine 90 = .ok (.bipush 32, 2) := by decide +kernel
theorem dX5_writeLine_92 : decode cX5_writeLine 92 = .ok (.invokevirtual 118, 3) := by decide +kernel
theorem dX5_writeLine_95 : decode cX5_writeLine 95 = .ok (.aload_n 0, 1) := by decide +kernel
theorem dX5_writeLine_96 : decode cX5_writeLine 96 = .ok (.iload_n 1, 1) := by decide +kernel
theorem dX5_writeLine_97 : decode cX5_writeLine 97 = .ok (.iconst 1, 1) := by decide +kernel
theorem dX5_writeLine_98 : decode cX5_writeLine 98 = .ok (.iconst 0, 1) := by decide +kernel
theorem dX5_writeLine_99 : decode cX5_writeLine 99 = .ok (.invokevirtual 121, 3) := by decide +kernel
theorem dX5_writeLine_102 : decode cX5_writeLine 102 = .ok (.aload_n 0, 1) := by decide +kernel
theorem dX5_writeLine_103 : decode cX5_writeLine 103 = .ok (.iload_n 1, 1) := by decide +kernel
theorem dX5_writeLine_104 : decode cX5_writeLine 104 = .ok (.invokevirtual 86, 3) := by decide +kernel
theorem dX5_writeLine_107 : decode cX5_writeLine 107 = .ok (.aload_n 0, 1) := by decide +kernel
theorem dX5_writeLine_108 : decode cX5_writeLine 108 = .ok (.getfield 80, 3) := by decide +kernel
theorem dX5_writeLine_111 : decode cX5_writeLine 111 = .ok (.ifCond .le 9, 3) := by decide +kernel
theorem dX5_writeLine_114 : decode cX5_writeLine 114 = .ok (.aload_n 0, 1) := by decide +kernel
theorem dX5_writeLine_115 : decode cX5_writeLine 115 = .ok (.bipush 58, 2) := by decide +kernel
theorem dX5_writeLine_117 : decode cX5_writeLine 117 = .ok (.invokevirtual 118, 3) := by decide +kernel
theorem dX5_writeLine_120 : decode cX5_writeLine 120 = .ok (.iconst 0, 1) := by decide +kernel
theorem dX5_writeLine_121 : decode cX5_writeLine 121 = .ok (.istore 4, 2) := by decide +kernel
theorem dX5_writeLine_123 : decode cX5_writeLine 123 = .ok (.iload 4, 2) := by decide +kernel
theorem dX5_writeLine_125 : decode cX5_writeLine 125 = .ok (.sipush 144, 3) := by decide +kernel
theorem dX5_writeLine_128 : decode cX5_writeLine 128 = .ok (.if_icmp .ge 103, 3) := by decide +kernel
theorem dX5_writeLine_131 : decode cX5_writeLine 131 = .ok (.aload_n 0, 1) := by decide +kernel
theorem dX5_writeLine_132 : decode cX5_writeLine 132 = .ok (.iload 4, 2) := by decide +kernel
theorem dX5_writeLine_134 : decode cX5_writeLine 134 = .ok (.invokevirtual 125, 3) := by decide +kernel
theorem dX5_writeLine_137 : decode cX5_writeLine 137 = .ok (.ifCond .eq 88, 3) := by decide +kernel
theorem dX5_writeLine_140 : decode cX5_writeLine 140 = .ok (.iload 4, 2) := by decide +kernel
theorem dX5_writeLine_142 : decode cX5_writeLine 142 = .ok (.istore 5, 2) := by decide +kernel
theorem dX5_writeLine_144 : decode cX5_writeLine 144 = .ok (.iload 5, 2) := by decide +kernel
theorem dX5_writeLine_146 : decode cX5_writeLine 146 = .ok (.bipush 12, 2) := by decide +kernel
theorem dX5_writeLine_148 : decode cX5_writeLine 148 = .ok (.irem, 1) := by decide +kernel
theorem dX5_writeLine_149 : decode cX5_writeLine 149 = .ok (.bipush 11, 2) := by decide +kernel
theorem dX5_writeLine_151 : decode cX5_writeLine 151 = .ok (.if_icmp .ge 21, 3) := by decide +kernel
theorem dX5_writeLine_154 : decode cX5_writeLine 154 = .ok (.aload_n 0, 1) := by decide +kernel
theorem dX5_writeLine_155 : decode cX5_writeLine 155 = .ok (.getfield 35, 3) := by decide +kernel
theorem dX5_writeLine_158 : decode cX5_writeLine 158 = .ok (.iload 5, 2) := by decide +kernel
theorem dX5_writeLine_160 : decode cX5_writeLine 160 = .ok (.iconst 1, 1) := by decide +kernel
theorem dX5_writeLine_161 : decode cX5_writeLine 161 = .ok (.iadd, 1) := by decide +kernel
theorem dX5_writeLine_162 : decode cX5_writeLine 162 = .ok (.baload, 1) := by decide +kernel
theorem dX5_writeLine_163 : decode cX5_writeLine 163 = .ok (.ifCond .eq 9, 3) := by decide +kernel
theorem dX5_writeLine_166 : decode cX5_writeLine 166 = .ok (.iinc 5 1, 3) := by decide +kernel
theorem dX5_writeLine_169 : decode cX5_writeLine 169 = .ok (.goto (-25), 3) := by decide +kernel
theorem dX5_writeLine_172 : decode cX5_writeLine 172 = .ok (.aload_n 0, 1) := by decide +kernel
theorem dX5_writeLine_173 : decode cX5_writeLine 173 = .ok (.bipush 32, 2) := by decide +kernel
theorem dX5_writeLine_175 : decode cX5_writeLine 175 = .ok (.invokevirtual 118, 3) := by decide +kernel
theorem dX5_writeLine_178 : decode cX5_writeLine 178 = .ok (.aload_n 0, 1) := by decide +kernel
theorem dX5_writeLine_179 : decode cX5_writeLine 179 = .ok (.bipush 65, 2) := by decide +kernel
theorem dX5_writeLine_181 : decode cX5_writeLine 181 = .ok (.iload 4, 2) := by decide +kernel
theorem dX5_writeLine_183 : decode cX5_writeLine 183 = .ok (.bipush 12, 2) := by decide +kernel
theorem dX5_writeLine_185 : decode cX5_writeLine 185 = .ok (.idiv, 1) := by decide +kernel
theorem dX5_writeLine_186 : decode cX5_writeLine 186 = .ok (.iadd, 1) := by decide +kernel
theorem dX5_writeLine_187 : decode cX5_writeLine 187 = .ok (.invokevirtual 118, 3) := by decide +kernel
theorem dX5_writeLine_190 : decode cX5_writeLine 190 = .ok (.aload_n 0, 1) := by decide +kernel
theorem dX5_writeLine_191 : decode cX5_writeLine 191 = .ok (.iload 4, 2) := by decide +kernel
theorem dX5_writeLine_193 : decode cX5_writeLine 193 = .ok (.bipush 12, 2) := by decide +kernel
theorem dX5_writeLine_195 : decode cX5_writeLine 195 = .ok (.irem, 1) := by decide +kernel
theorem dX5_writeLine_196 : decode cX5_writeLine 196 = .ok (.iconst 1, 1) := by decide +kernel
theorem dX5_writeLine_197 : decode cX5_writeLine 197 = .ok (.iadd, 1) := by decide +kernel
theorem dX5_writeLine_198 : decode cX5_writeLine 198 = .ok (.invokevirtual 128, 3) := by decide +kernel
theorem dX5_writeLine_201 : decode cX5_writeLine 201 = .ok (.iload 5, 2) := by decide +kernel
theorem dX5_writeLine_203 : decode cX5_writeLine 203 = .ok (.iload 4, 2) := by decide +kernel
theorem dX5_writeLine_205 : decode cX5_writeLine 205 = .ok (.if_icmp .le 20, 3) := by decide +kernel
theorem dX5_writeLine_208 : decode cX5_writeLine 208 = .ok (.aload_n 0, 1) := by decide +kernel
theorem dX5_writeLine_209 : decode cX5_writeLine 209 = .ok (.bipush 45, 2) := by decide +kernel
theorem dX5_writeLine_211 : decode cX5_writeLine 211 = .ok (.invokevirtual 118, 3) := by decide +kernel
theorem dX5_writeLine_214 : decode cX5_writeLine 214 = .ok (.aload_n 0, 1) := by decide +kernel
theorem dX5_writeLine_215 : decode cX5_writeLine 215 = .ok (.iload 5, 2) := by decide +kernel
theorem dX5_writeLine_217 : decode cX5_writeLine 217 = .ok (.bipush 12, 2) := by decide +kernel
theorem dX5_writeLine_219 : decode cX5_writeLine 219 = .ok (.irem, 1) := by decide +kernel
theorem dX5_writeLine_220 : decode cX5_writeLine 220 = .ok (.iconst 1, 1) := by decide +kernel
theorem dX5_writeLine_221 : decode cX5_writeLine 221 = .ok (.iadd, 1) := by decide +kernel
theorem dX5_writeLine_222 : decode cX5_writeLine 222 = .ok (.invokevirtual 128, 3) := by decide +kernel
theorem dX5_writeLine_225 : decode cX5_writeLine 225 = .ok (.iinc 4 1, 3) := by decide +kernel
theorem dX5_writeLine_228 : decode cX5_writeLine 228 = .ok (.goto (-105), 3) := by decide +kernel
theorem dX5_writeLine_231 : decode cX5_writeLine 231 = .ok (.return_, 1) := by decide +kernel
set_option maxRecDepth 20000 in
theorem ggX5_lineLength_X5_isStreet : GoodIn wsX5_lineLength wsX5_isStreet := goodIn_r _ [6, 7, 8, 9, 5, 10, 53, 54, 55, 56, 57, 58, 59, 60, 61, 62, 63, 64, 65, 66, 67, 68, 69] (by decide +kernel) (by decide +kernel)
set_option maxRecDepth 20000 in
theorem gX5_lineLength_X5_isStreet : GoodIn wsX5_lineLength (wsV RX5 97 RX5 yX5_isStreet wsX5_isStreet) := goodIn_app (goodIn_of _ (by decide +kernel)) ggX5_lineLength_X5_isStreet
set_option maxRecDepth 20000 in
theorem ggX5_lineLength_X5_goes : GoodIn wsX5_lineLength wsX5_goes := goodIn_r _ [14, 15, 53, 54, 55, 56, 57, 58, 59, 60, 61, 62, 63, 64, 65, 66, 67, 68, 69] (by decide +kernel) (by decide +kernel)
set_option maxRecDepth 20000 in
theorem gX5_lineLength_X5_goes : GoodIn wsX5_lineLength (wsV RX5 104 RX5 yX5_goes wsX5_goes) := goodIn_app (goodIn_of _ (by decide +kernel)) ggX5_lineLength_X5_goes
set_option maxRecDepth 20000 in
theorem ggX5_lineLength_X5_writeLine : GoodIn wsX5_lineLength wsX5_writeLine := goodIn_r _ [19, 1, 20, 21, 22, 23, 24, 25, 26, 27, 5, 28, 29, 30, 31, 32, 33, 34, 35, 36, 37, 38, 39, 40, 41, 42, 43, 44, 45, 46, 47, 48, 49, 50, 51, 52, 53, 54, 55, 56, 57, 58, 59, 60, 61, 62, 63, 64, 65, 66, 67, 68, 69] (by decide +kernel) (by decide +kernel)
set_option maxRecDepth 20000 in
theorem gX5_lineLength_X5_writeLine : GoodIn wsX5_lineLength (wsV RX5 131 RX5 yX5_writeLine wsX5_writeLine) := goodIn_app (goodIn_of _ (by decide +kernel)) ggX5_lineLength_X5_writeLine
theorem dX5_lineLength_0 : decode cX5_lineLength 0 = .ok (.aload_n 0, 1) := by decide +kernel
theorem dX5_lineLength_1 : decode cX5_lineLength 1 = .ok (.aload_n 0, 1) := by decide +kernel
theorem dX5_lineLength_2 : decode cX5_lineLength 2 = .ok (.iload_n 1, 1) := by decide +kernel
theorem dX5_lineLength_3 : decode cX5_lineLength 3 = .ok (.invokevirtual 97, 3) := by decide +kernel
theorem dX5_lineLength_6 : decode cX5_lineLength 6 = .ok (.iconst 1, 1) := by decide +kernel
theorem dX5_lineLength_7 : decode cX5_lineLength 7 = .ok (.iconst 1, 1) := by decide +kernel
theorem dX5_lineLength_8 : decode cX5_lineLength 8 = .ok (.invokevirtual 104, 3) := by decide +kernel
theorem dX5_lineLength_11 : decode cX5_lineLength 11 = .ok (.ifCond .ne 5, 3) := by decide +kernel
theorem dX5_lineLength_14 : decode cX5_lineLength 14 = .ok (.iconst 0, 1) := by decide +kernel
theorem dX5_lineLength_15 : decode cX5_lineLength 15 = .ok (.ireturn, 1) := by decide +kernel
theorem dX5_lineLength_16 : decode cX5_lineLength 16 = .ok (.aload_n 0, 1) := by decide +kernel
theorem dX5_lineLength_17 : decode cX5_lineLength 17 = .ok (.iload_n 1, 1) := by decide +kernel
theorem dX5_lineLength_18 : decode cX5_lineLength 18 = .ok (.invokevirtual 131, 3) := by decide +kernel
theorem dX5_lineLength_21 : decode cX5_lineLength 21 = .ok (.aload_n 0, 1) := by decide +kernel
theorem dX5_lineLength_22 : decode cX5_lineLength 22 = .ok (.getfield 115, 3) := by decide +kernel
theorem dX5_lineLength_25 : decode cX5_lineLength 25 = .ok (.ireturn, 1) := by decide +kernel
set_option maxRecDepth 20000 in
theorem ggX5_lineChar_X5_isStreet : GoodIn wsX5_lineChar wsX5_isStreet := goodIn_r _ [8, 9, 10, 11, 7, 12, 53, 54, 55, 56, 57, 58, 59, 60, 61, 62, 63, 64, 65, 66, 67, 68, 69] (by decide +kernel) (by decide +kernel)
set_option maxRecDepth 20000 in
theorem gX5_lineChar_X5_isStreet : GoodIn wsX5_lineChar (wsV RX5 97 RX5 yX5_isStreet wsX5_isStreet) := goodIn_app (goodIn_of _ (by decide +kernel)) ggX5_lineChar_X5_isStreet
set_option maxRecDepth 20000 in
theorem ggX5_lineChar_X5_goes : GoodIn wsX5_lineChar wsX5_goes := goodIn_r _ [16, 2, 53, 54, 55, 56, 57, 58, 59, 60, 61, 62, 63, 64, 65, 66, 67, 68, 69] (by decide +kernel) (by decide +kernel)
set_option maxRecDepth 20000 in
theorem gX5_lineChar_X5_goes : GoodIn wsX5_lineChar (wsV RX5 104 RX5 yX5_goes wsX5_goes) := goodIn_app (goodIn_of _ (by decide +kernel)) ggX5_lineChar_X5_goes
set_option maxRecDepth 20000 in
theorem ggX5_lineChar_X5_writeLine : GoodIn wsX5_lineChar wsX5_writeLine := goodIn_r _ [20, 1, 21, 22, 23, 24, 25, 26, 27, 28, 7, 29, 30, 31, 32, 33, 34, 3, 35, 36, 37, 38, 39, 40, 41, 42, 43, 44, 45, 46, 47, 48, 49, 50, 51, 52, 53, 54, 55, 56, 57, 58, 59, 60, 61, 62, 63, 64, 65, 66, 67, 68, 69] (by decide +kernel) (by decide +kernel)
set_option maxRecDepth 20000 in
theorem gX5_lineChar_X5_writeLine : GoodIn wsX5_lineChar (wsV RX5 131 RX5 yX5_writeLine wsX5_writeLine) := goodIn_app (goodIn_of _ (by decide +kernel)) ggX5_lineChar_X5_writeLine
set_option maxRecDepth 20000 in
theorem ggX5_lineChar_X5_in : GoodIn wsX5_lineChar wsX5_in := goodIn_r _ [12] (by decide +kernel) (by decide +kernel)
set_option maxRecDepth 20000 in
theorem gX5_lineChar_X5_in : GoodIn wsX5_lineChar (va_wsS RX5 61 yX5_in wsX5_in) := goodIn_app (goodIn_of _ (by decide +kernel)) ggX5_lineChar_X5_in
theorem dX5_lineChar_0 : decode cX5_lineChar 0 = .ok (.aload_n 0, 1) := by decide +kernel
theorem dX5_lineChar_1 : decode cX5_lineChar 1 = .ok (.aload_n 0, 1) := by decide +kernel
theorem dX5_lineChar_2 : decode cX5_lineChar 2 = .ok (.iload_n 1, 1) := by decide +kernel
theorem dX5_lineChar_3 : decode cX5_lineChar 3 = .ok (.invokevirtual 97, 3) := by decide +kernel
theorem dX5_lineChar_6 : decode cX5_lineChar 6 = .ok (.iconst 1, 1) := by decide +kernel
theorem dX5_lineChar_7 : decode cX5_lineChar 7 = .ok (.iconst 1, 1) := by decide +kernel
theorem dX5_lineChar_8 : decode cX5_lineChar 8 = .ok (.invokevirtual 104, 3) := by decide +kernel
theorem dX5_lineChar_11 : decode cX5_lineChar 11 = .ok (.ifCond .ne 5, 3) := by decide +kernel
theorem dX5_lineChar_14 : decode cX5_lineChar 14 = .ok (.iconst 0, 1) := by decide +kernel
theorem dX5_lineChar_15 : decode cX5_lineChar 15 = .ok (.ireturn, 1) := by decide +kernel
theorem dX5_lineChar_16 : decode cX5_lineChar 16 = .ok (.aload_n 0, 1) := by decide +kernel
theorem dX5_lineChar_17 : decode cX5_lineChar 17 = .ok (.iload_n 1, 1) := by decide +kernel
theorem dX5_lineChar_18 : decode cX5_lineChar 18 = .ok (.invokevirtual 131, 3) := by decide +kernel
theorem dX5_lineChar_21 : decode cX5_lineChar 21 = .ok (.aload_n 0, 1) := by decide +kernel
theorem dX5_lineChar_22 : decode cX5_lineChar 22 = .ok (.iload_n 2, 1) := by decide +kernel
theorem dX5_lineChar_23 : decode cX5_lineChar 23 = .ok (.iconst 0, 1) := by decide +kernel
theorem dX5_lineChar_24 : decode cX5_lineChar 24 = .ok (.aload_n 0, 1) := by decide +kernel
theorem dX5_lineChar_25 : decode cX5_lineChar 25 = .ok (.getfield 115, 3) := by decide +kernel
theorem dX5_lineChar_28 : decode cX5_lineChar 28 = .ok (.iconst 1, 1) := by decide +kernel
theorem dX5_lineChar_29 : decode cX5_lineChar 29 = .ok (.isub, 1) := by decide +kernel
theorem dX5_lineChar_30 : decode cX5_lineChar 30 = .ok (.invokestatic 61, 3) := by decide +kernel
theorem dX5_lineChar_33 : decode cX5_lineChar 33 = .ok (.ifCond .eq 7, 3) := by decide +kernel
theorem dX5_lineChar_36 : decode cX5_lineChar 36 = .ok (.iconst 0, 1) := by decide +kernel
theorem dX5_lineChar_37 : decode cX5_lineChar 37 = .ok (.goto 4, 3) := by decide +kernel
theorem dX5_lineChar_40 : decode cX5_lineChar 40 = .ok (.iconst 1, 1) := by decide +kernel
theorem dX5_lineChar_41 : decode cX5_lineChar 41 = .ok (.putfield 54, 3) := by decide +kernel
theorem dX5_lineChar_44 : decode cX5_lineChar 44 = .ok (.aload_n 0, 1) := by decide +kernel
theorem dX5_lineChar_45 : decode cX5_lineChar 45 = .ok (.getfield 54, 3) := by decide +kernel
theorem dX5_lineChar_48 : decode cX5_lineChar 48 = .ok (.ifCond .ne 13, 3) := by decide +kernel
theorem dX5_lineChar_51 : decode cX5_lineChar 51 = .ok (.aload_n 0, 1) := by decide +kernel
theorem dX5_lineChar_52 : decode cX5_lineChar 52 = .ok (.getfield 44, 3) := by decide +kernel
theorem dX5_lineChar_55 : decode cX5_lineChar 55 = .ok (.iload_n 2, 1) := by decide +kernel
theorem dX5_lineChar_56 : decode cX5_lineChar 56 = .ok (.iaload, 1) := by decide +kernel
theorem dX5_lineChar_57 : decode cX5_lineChar 57 = .ok (.i2c, 1) := by decide +kernel
theorem dX5_lineChar_58 : decode cX5_lineChar 58 = .ok (.goto 4, 3) := by decide +kernel
theorem dX5_lineChar_61 : decode cX5_lineChar 61 = .ok (.iconst 0, 1) := by decide +kernel
theorem dX5_lineChar_62 : decode cX5_lineChar 62 = .ok (.ireturn, 1) := by decide +kernel
set_option maxRecDepth 20000 in
theorem ggX5_trackLength_X5_isStreet : GoodIn wsX5_trackLength wsX5_isStreet := goodIn_r _ [5, 6, 7, 8, 4, 9, 31, 32, 33, 34, 35, 36, 37, 38, 39, 40, 41, 42, 43, 44, 45, 46, 47] (by decide +kernel) (by decide +kernel)
set_option maxRecDepth 20000 in
theorem gX5_trackLength_X5_isStreet : GoodIn wsX5_trackLength (wsV RX5 97 RX5 yX5_isStreet wsX5_isStreet) := goodIn_app (goodIn_of _ (by decide +kernel)) ggX5_trackLength_X5_isStreet
set_option maxRecDepth 20000 in
theorem ggX5_trackLength_X5_goes : GoodIn wsX5_trackLength wsX5_goes := goodIn_r _ [13, 14, 31, 32, 33, 34, 35, 36, 37, 38, 39, 40, 41, 42, 43, 44, 45, 46, 47] (by decide +kernel) (by decide +kernel)
set_option maxRecDepth 20000 in
theorem gX5_trackLength_X5_goes : GoodIn wsX5_trackLength (wsV RX5 104 RX5 yX5_goes wsX5_goes) := goodIn_app (goodIn_of _ (by decide +kernel)) ggX5_trackLength_X5_goes
set_option maxRecDepth 20000 in
theorem ggX5_trackLength_X5_tracked : GoodIn wsX5_trackLength wsX5_tracked := goodIn_r _ [18, 19, 20, 21, 22, 4, 23, 24, 25, 26, 27, 28, 29, 30, 31, 32, 33, 34, 35, 36, 37, 38, 39, 40, 41, 42, 43, 44, 45, 46, 47] (by decide +kernel) (by decide +kernel)
set_option maxRecDepth 20000 in
theorem gX5_trackLength_X5_tracked : GoodIn wsX5_trackLength (wsV RX5 108 RX5 yX5_tracked wsX5_tracked) := goodIn_app (goodIn_of _ (by decide +kernel)) ggX5_trackLength_X5_tracked
theorem dX5_trackLength_0 : decode cX5_trackLength 0 = .ok (.aload_n 0, 1) := by decide +kernel
theorem dX5_trackLength_1 : decode cX5_trackLength 1 = .ok (.aload_n 0, 1) := by decide +kernel
theorem dX5_trackLength_2 : decode cX5_trackLength 2 = .ok (.iload_n 1, 1) := by decide +kernel
theorem dX5_trackLength_3 : decode cX5_trackLength 3 = .ok (.invokevirtual 97, 3) := by decide +kernel
theorem dX5_trackLength_6 : decode cX5_trackLength 6 = .ok (.iconst 1, 1) := by decide +kernel
theorem dX5_trackLength_7 : decode cX5_trackLength 7 = .ok (.iconst 1, 1) := by decide +kernel
theorem dX5_trackLength_8 : decode cX5_trackLength 8 = .ok (.invokevirtual 104, 3) := by decide +kernel
theorem dX5_trackLength_11 : decode cX5_trackLength 11 = .ok (.ifCond .eq 11, 3) := by decide +kernel
theorem dX5_trackLength_14 : decode cX5_trackLength 14 = .ok (.aload_n 0, 1) := by decide +kernel
theorem dX5_trackLength_15 : decode cX5_trackLength 15 = .ok (.iload_n 1, 1) := by decide +kernel
theorem dX5_trackLength_16 : decode cX5_trackLength 16 = .ok (.invokevirtual 108, 3) := by decide +kernel
theorem dX5_trackLength_19 : decode cX5_trackLength 19 = .ok (.goto 4, 3) := by decide +kernel
theorem dX5_trackLength_22 : decode cX5_trackLength 22 = .ok (.iconst 0, 1) := by decide +kernel
theorem dX5_trackLength_23 : decode cX5_trackLength 23 = .ok (.ireturn, 1) := by decide +kernel
set_option maxRecDepth 20000 in
theorem ggX5_squares_X5_isStreet : GoodIn wsX5_squares wsX5_isStreet := goodIn_r _ [6, 7, 8, 9, 5, 10, 27, 28, 29, 30, 31, 32, 33, 34, 35, 36, 37, 38, 39, 40, 41, 42, 43] (by decide +kernel) (by decide +kernel)
set_option maxRecDepth 20000 in
theorem gX5_squares_X5_isStreet : GoodIn wsX5_squares (wsV RX5 97 RX5 yX5_isStreet wsX5_isStreet) := goodIn_app (goodIn_of _ (by decide +kernel)) ggX5_squares_X5_isStreet
set_option maxRecDepth 20000 in
theorem ggX5_squares_X5_goes : GoodIn wsX5_squares wsX5_goes := goodIn_r _ [14, 15, 27, 28, 29, 30, 31, 32, 33, 34, 35, 36, 37, 38, 39, 40, 41, 42, 43] (by decide +kernel) (by decide +kernel)
set_option maxRecDepth 20000 in
theorem gX5_squares_X5_goes : GoodIn wsX5_squares (wsV RX5 104 RX5 yX5_goes wsX5_goes) := goodIn_app (goodIn_of _ (by decide +kernel)) ggX5_squares_X5_goes
set_option maxRecDepth 20000 in
theorem ggX5_squares_X5_tracks : GoodIn wsX5_squares wsX5_tracks := goodIn_r _ [19, 20, 1, 21, 22, 23, 24, 25, 5, 26, 27, 28, 29, 30, 31, 32, 33, 34, 35, 36, 37, 38, 39, 40, 41, 42, 43] (by decide +kernel) (by decide +kernel)
set_option maxRecDepth 20000 in
theorem gX5_squares_X5_tracks : GoodIn wsX5_squares (wsV RX5 86 RX5 yX5_tracks wsX5_tracks) := goodIn_app (goodIn_of _ (by decide +kernel)) ggX5_squares_X5_tracks
theorem dX5_squares_0 : decode cX5_squares 0 = .ok (.iconst 0, 1) := by decide +kernel
theorem dX5_squares_1 : decode cX5_squares 1 = .ok (.istore_n 2, 1) := by decide +kernel
theorem dX5_squares_2 : decode cX5_squares 2 = .ok (.aload_n 0, 1) := by decide +kernel
theorem dX5_squares_3 : decode cX5_squares 3 = .ok (.aload_n 0, 1) := by decide +kernel
theorem dX5_squares_4 : decode cX5_squares 4 = .ok (.iload_n 1, 1) := by decide +kernel
theorem dX5_squares_5 : decode cX5_squares 5 = .ok (.invokevirtual 97, 3) := by decide +kernel
theorem dX5_squares_8 : decode cX5_squares 8 = .ok (.iconst 1, 1) := by decide +kernel
theorem dX5_squares_9 : decode cX5_squares 9 = .ok (.iconst 1, 1) := by decide +kernel
theorem dX5_squares_10 : decode cX5_squares 10 = .ok (.invokevirtual 104, 3) := by decide +kernel
theorem dX5_squares_13 : decode cX5_squares 13 = .ok (.ifCond .eq 40, 3) := by decide +kernel
theorem dX5_squares_16 : decode cX5_squares 16 = .ok (.aload_n 0, 1) := by decide +kernel
theorem dX5_squares_17 : decode cX5_squares 17 = .ok (.iload_n 1, 1) := by decide +kernel
theorem dX5_squares_18 : decode cX5_squares 18 = .ok (.invokevirtual 86, 3) := by decide +kernel
theorem dX5_squares_21 : decode cX5_squares 21 = .ok (.iconst 0, 1) := by decide +kernel
theorem dX5_squares_22 : decode cX5_squares 22 = .ok (.istore_n 3, 1) := by decide +kernel
theorem dX5_squares_23 : decode cX5_squares 23 = .ok (.iload_n 3, 1) := by decide +kernel
theorem dX5_squares_24 : decode cX5_squares 24 = .ok (.sipush 144, 3) := by decide +kernel
theorem dX5_squares_27 : decode cX5_squares 27 = .ok (.if_icmp .ge 26, 3) := by decide +kernel
theorem dX5_squares_30 : decode cX5_squares 30 = .ok (.iload_n 2, 1) := by decide +kernel
theorem dX5_squares_31 : decode cX5_squares 31 = .ok (.aload_n 0, 1) := by decide +kernel
theorem dX5_squares_32 : decode cX5_squares 32 = .ok (.getfield 35, 3) := by decide +kernel
theorem dX5_squares_35 : decode cX5_squares 35 = .ok (.iload_n 3, 1) := by decide +kernel
theorem dX5_squares_36 : decode cX5_squares 36 = .ok (.baload, 1) := by decide +kernel
theorem dX5_squares_37 : decode cX5_squares 37 = .ok (.ifCond .eq 7, 3) := by decide +kernel
theorem dX5_squares_40 : decode cX5_squares 40 = .ok (.iconst 1, 1) := by decide +kernel
theorem dX5_squares_41 : decode cX5_squares 41 = .ok (.goto 4, 3) := by decide +kernel
theorem dX5_squares_44 : decode cX5_squares 44 = .ok (.iconst 0, 1) := by decide +kernel
theorem dX5_squares_45 : decode cX5_squares 45 = .ok (.iadd, 1) := by decide +kernel
theorem dX5_squares_46 : decode cX5_squares 46 = .ok (.istore_n 2, 1) := by decide +kernel
theorem dX5_squares_47 : decode cX5_squares 47 = .ok (.iinc 3 1, 3) := by decide +kernel
theorem dX5_squares_50 : decode cX5_squares 50 = .ok (.goto (-27), 3) := by decide +kernel
theorem dX5_squares_53 : decode cX5_squares 53 = .ok (.iload_n 2, 1) := by decide +kernel
theorem dX5_squares_54 : decode cX5_squares 54 = .ok (.ireturn, 1) := by decide +kernel
set_option maxRecDepth 20000 in
theorem ggX5_runs_X5_isStreet : GoodIn wsX5_runs wsX5_isStreet := goodIn_r _ [5, 6, 7, 8, 4, 9, 31, 32, 33, 34, 35, 36, 37, 38, 39, 40, 41, 42, 43, 44, 45, 46, 47] (by decide +kernel) (by decide +kernel)
set_option maxRecDepth 20000 in
theorem gX5_runs_X5_isStreet : GoodIn wsX5_runs (wsV RX5 97 RX5 yX5_isStreet wsX5_isStreet) := goodIn_app (goodIn_of _ (by decide +kernel)) ggX5_runs_X5_isStreet
set_option maxRecDepth 20000 in
theorem ggX5_runs_X5_goes : GoodIn wsX5_runs wsX5_goes := goodIn_r _ [13, 14, 31, 32, 33, 34, 35, 36, 37, 38, 39, 40, 41, 42, 43, 44, 45, 46, 47] (by decide +kernel) (by decide +kernel)
set_option maxRecDepth 20000 in
theorem gX5_runs_X5_goes : GoodIn wsX5_runs (wsV RX5 104 RX5 yX5_goes wsX5_goes) := goodIn_app (goodIn_of _ (by decide +kernel)) ggX5_runs_X5_goes
set_option maxRecDepth 20000 in
theorem ggX5_runs_X5_tracks : GoodIn wsX5_runs wsX5_tracks := goodIn_r _ [18, 19, 20, 21, 22, 23, 24, 25, 4, 26, 31, 32, 33, 34, 35, 36, 37, 38, 39, 40, 41, 42, 43, 44, 45, 46, 47] (by decide +kernel) (by decide +kernel)
set_option maxRecDepth 20000 in
theorem gX5_runs_X5_tracks : GoodIn wsX5_runs (wsV RX5 86 RX5 yX5_tracks wsX5_tracks) := goodIn_app (goodIn_of _ (by decide +kernel)) ggX5_runs_X5_tracks
set_option maxRecDepth 20000 in
theorem ggX5_runs_X5_beginsRun : GoodIn wsX5_runs wsX5_beginsRun := goodIn_r _ [30, 20, 31, 32, 33, 34, 35, 36, 37, 38, 39, 40, 41, 42, 43, 44, 45, 46, 47] (by decide +kernel) (by decide +kernel)
set_option maxRecDepth 20000 in
theorem gX5_runs_X5_beginsRun : GoodIn wsX5_runs (wsV RX5 125 RX5 yX5_beginsRun wsX5_beginsRun) := goodIn_app (goodIn_of _ (by decide +kernel)) ggX5_runs_X5_beginsRun
theorem dX5_runs_0 : decode cX5_runs 0 = .ok (.iconst 0, 1) := by decide +kernel
theorem dX5_runs_1 : decode cX5_runs 1 = .ok (.istore_n 2, 1) := by decide +kernel
theorem dX5_runs_2 : decode cX5_runs 2 = .ok (.aload_n 0, 1) := by decide +kernel
theorem dX5_runs_3 : decode cX5_runs 3 = .ok (.aload_n 0, 1) := by decide +kernel
theorem dX5_runs_4 : decode cX5_runs 4 = .ok (.iload_n 1, 1) := by decide +kernel
theorem dX5_runs_5 : decode cX5_runs 5 = .ok (.invokevirtual 97, 3) := by decide +kernel
theorem dX5_runs_8 : decode cX5_runs 8 = .ok (.iconst 1, 1) := by decide +kernel
theorem dX5_runs_9 : decode cX5_runs 9 = .ok (.iconst 1, 1) := by decide +kernel
theorem dX5_runs_10 : decode cX5_runs 10 = .ok (.invokevirtual 104, 3) := by decide +kernel
theorem dX5_runs_13 : decode cX5_runs 13 = .ok (.ifCond .eq 39, 3) := by decide +kernel
theorem dX5_runs_16 : decode cX5_runs 16 = .ok (.aload_n 0, 1) := by decide +kernel
theorem dX5_runs_17 : decode cX5_runs 17 = .ok (.iload_n 1, 1) := by decide +kernel
theorem dX5_runs_18 : decode cX5_runs 18 = .ok (.invokevirtual 86, 3) := by decide +kernel
theorem dX5_runs_21 : decode cX5_runs 21 = .ok (.iconst 0, 1) := by decide +kernel
theorem dX5_runs_22 : decode cX5_runs 22 = .ok (.istore_n 3, 1) := by decide +kernel
theorem dX5_runs_23 : decode cX5_runs 23 = .ok (.iload_n 3, 1) := by decide +kernel
theorem dX5_runs_24 : decode cX5_runs 24 = .ok (.sipush 144, 3) := by decide +kernel
theorem dX5_runs_27 : decode cX5_runs 27 = .ok (.if_icmp .ge 25, 3) := by decide +kernel
theorem dX5_runs_30 : decode cX5_runs 30 = .ok (.iload_n 2, 1) := by decide +kernel
theorem dX5_runs_31 : decode cX5_runs 31 = .ok (.aload_n 0, 1) := by decide +kernel
theorem dX5_runs_32 : decode cX5_runs 32 = .ok (.iload_n 3, 1) := by decide +kernel
theorem dX5_runs_33 : decode cX5_runs 33 = .ok (.invokevirtual 125, 3) := by decide +kernel
theorem dX5_runs_36 : decode cX5_runs 36 = .ok (.ifCond .eq 7, 3) := by decide +kernel
theorem dX5_runs_39 : decode cX5_runs 39 = .ok (.iconst 1, 1) := by decide +kernel
theorem dX5_runs_40 : decode cX5_runs 40 = .ok (.goto 4, 3) := by decide +kernel
theorem dX5_runs_43 : decode cX5_runs 43 = .ok (.iconst 0, 1) := by decide +kernel
theorem dX5_runs_44 : decode cX5_runs 44 = .ok (.iadd, 1) := by decide +kernel
theorem dX5_runs_45 : decode cX5_runs 45 = .ok (.istore_n 2, 1) := by decide +kernel
theorem dX5_runs_46 : decode cX5_runs 46 = .ok (.iinc 3 1, 3) := by decide +kernel
theorem dX5_runs_49 : decode cX5_runs 49 = .ok (.goto (-26), 3) := by decide +kernel
theorem dX5_runs_52 : decode cX5_runs 52 = .ok (.iload_n 2, 1) := by decide +kernel
theorem dX5_runs_53 : decode cX5_runs 53 = .ok (.ireturn, 1) := by decide +kernel
set_option maxRecDepth 20000 in
theorem ggX5_isOn_X5_isStreet : GoodIn wsX5_isOn wsX5_isStreet := goodIn_r _ [6, 7, 8, 9, 5, 10, 30, 31, 32, 33, 34, 35, 36, 37, 38, 39, 40, 41, 42, 43, 44, 45, 46] (by decide +kernel) (by decide +kernel)
set_option maxRecDepth 20000 in
theorem gX5_isOn_X5_isStreet : GoodIn wsX5_isOn (wsV RX5 97 RX5 yX5_isStreet wsX5_isStreet) := goodIn_app (goodIn_of _ (by decide +kernel)) ggX5_isOn_X5_isStreet
set_option maxRecDepth 20000 in
theorem ggX5_isOn_X5_isSquare : GoodIn wsX5_isOn wsX5_isSquare := goodIn_r _ [13, 8, 9, 5, 10] (by decide +kernel) (by decide +kernel)
set_option maxRecDepth 20000 in
theorem gX5_isOn_X5_isSquare : GoodIn wsX5_isOn (va_wsS RX5 101 yX5_isSquare wsX5_isSquare) := goodIn_app (goodIn_of _ (by decide +kernel)) ggX5_isOn_X5_isSquare
set_option maxRecDepth 20000 in
theorem ggX5_isOn_X5_goes : GoodIn wsX5_isOn wsX5_goes := goodIn_r _ [17, 18, 30, 31, 32, 33, 34, 35, 36, 37, 38, 39, 40, 41, 42, 43, 44, 45, 46] (by decide +kernel) (by decide +kernel)
set_option maxRecDepth 20000 in
theorem gX5_isOn_X5_goes : GoodIn wsX5_isOn (wsV RX5 104 RX5 yX5_goes wsX5_goes) := goodIn_app (goodIn_of _ (by decide +kernel)) ggX5_isOn_X5_goes
set_option maxRecDepth 20000 in
theorem ggX5_isOn_X5_tracks : GoodIn wsX5_isOn wsX5_tracks := goodIn_r _ [22, 23, 1, 24, 25, 26, 27, 28, 5, 29, 30, 31, 32, 33, 34, 35, 36, 37, 38, 39, 40, 41, 42, 43, 44, 45, 46] (by decide +kernel) (by decide +kernel)
set_option maxRecDepth 20000 in
theorem gX5_isOn_X5_tracks : GoodIn wsX5_isOn (wsV RX5 86 RX5 yX5_tracks wsX5_tracks) := goodIn_app (goodIn_of _ (by decide +kernel)) ggX5_isOn_X5_tracks
theorem dX5_isOn_0 : decode cX5_isOn 0 = .ok (.aload_n 0, 1) := by decide +kernel
theorem dX5_isOn_1 : decode cX5_isOn 1 = .ok (.aload_n 0, 1) := by decide +kernel
theorem dX5_isOn_2 : decode cX5_isOn 2 = .ok (.iload_n 1, 1) := by decide +kernel
theorem dX5_isOn_3 : decode cX5_isOn 3 = .ok (.invokevirtual 97, 3) := by decide +kernel
theorem dX5_isOn_6 : decode cX5_isOn 6 = .ok (.ifCond .eq 15, 3) := by decide +kernel
theorem dX5_isOn_9 : decode cX5_isOn 9 = .ok (.iload_n 2, 1) := by decide +kernel
theorem dX5_isOn_10 : decode cX5_isOn 10 = .ok (.iload_n 3, 1) := by decide +kernel
theorem dX5_isOn_11 : decode cX5_isOn 11 = .ok (.invokestatic 101, 3) := by decide +kernel
theorem dX5_isOn_14 : decode cX5_isOn 14 = .ok (.ifCond .eq 7, 3) := by decide +kernel
theorem dX5_isOn_17 : decode cX5_isOn 17 = .ok (.iconst 1, 1) := by decide +kernel
theorem dX5_isOn_18 : decode cX5_isOn 18 = .ok (.goto 4, 3) := by decide +kernel
theorem dX5_isOn_21 : decode cX5_isOn 21 = .ok (.iconst 0, 1) := by decide +kernel
theorem dX5_isOn_22 : decode cX5_isOn 22 = .ok (.iconst 1, 1) := by decide +kernel
theorem dX5_isOn_23 : decode cX5_isOn 23 = .ok (.iconst 1, 1) := by decide +kernel
theorem dX5_isOn_24 : decode cX5_isOn 24 = .ok (.invokevirtual 104, 3) := by decide +kernel
theorem dX5_isOn_27 : decode cX5_isOn 27 = .ok (.ifCond .ne 5, 3) := by decide +kernel
theorem dX5_isOn_30 : decode cX5_isOn 30 = .ok (.iconst 0, 1) := by decide +kernel
theorem dX5_isOn_31 : decode cX5_isOn 31 = .ok (.ireturn, 1) := by decide +kernel
theorem dX5_isOn_32 : decode cX5_isOn 32 = .ok (.aload_n 0, 1) := by decide +kernel
theorem dX5_isOn_33 : decode cX5_isOn 33 = .ok (.iload_n 1, 1) := by decide +kernel
theorem dX5_isOn_34 : decode cX5_isOn 34 = .ok (.invokevirtual 86, 3) := by decide +kernel
theorem dX5_isOn_37 : decode cX5_isOn 37 = .ok (.aload_n 0, 1) := by decide +kernel
theorem dX5_isOn_38 : decode cX5_isOn 38 = .ok (.getfield 35, 3) := by decide +kernel
theorem dX5_isOn_41 : decode cX5_isOn 41 = .ok (.bipush 12, 2) := by decide +kernel
theorem dX5_isOn_43 : decode cX5_isOn 43 = .ok (.iload_n 2, 1) := by decide +kernel
theorem dX5_isOn_44 : decode cX5_isOn 44 = .ok (.imul, 1) := by decide +kernel
theorem dX5_isOn_45 : decode cX5_isOn 45 = .ok (.iload_n 3, 1) := by decide +kernel
theorem dX5_isOn_46 : decode cX5_isOn 46 = .ok (.iadd, 1) := by decide +kernel
theorem dX5_isOn_47 : decode cX5_isOn 47 = .ok (.baload, 1) := by decide +kernel
theorem dX5_isOn_48 : decode cX5_isOn 48 = .ok (.ireturn, 1) := by decide +kernel
set_option maxRecDepth 20000 in
theorem ggX5_isOnTrack_X5_isOn : GoodIn wsX5_isOnTrack wsX5_isOn := goodIn_r _ [5, 6, 7, 8, 9, 4, 10, 11, 12, 13, 14, 15, 16, 17, 18, 19, 20, 21, 22, 23, 24, 25, 26, 27, 28, 29, 30, 31, 32, 33, 34, 35, 36, 37, 38, 39, 40, 41, 42, 43, 44, 45, 46, 47, 48, 49, 50] (by decide +kernel) (by decide +kernel)
set_option maxRecDepth 20000 in
theorem gX5_isOnTrack_X5_isOn : GoodIn wsX5_isOnTrack (wsV RX5 134 RX5 yX5_isOn wsX5_isOn) := goodIn_app (goodIn_of _ (by decide +kernel)) ggX5_isOnTrack_X5_isOn
theorem dX5_isOnTrack_0 : decode cX5_isOnTrack 0 = .ok (.aload_n 0, 1) := by decide +kernel
theorem dX5_isOnTrack_1 : decode cX5_isOnTrack 1 = .ok (.iload_n 1, 1) := by decide +kernel
theorem dX5_isOnTrack_2 : decode cX5_isOnTrack 2 = .ok (.iload_n 2, 1) := by decide +kernel
theorem dX5_isOnTrack_3 : decode cX5_isOnTrack 3 = .ok (.iload_n 3, 1) := by decide +kernel
theorem dX5_isOnTrack_4 : decode cX5_isOnTrack 4 = .ok (.invokevirtual 134, 3) := by decide +kernel
theorem dX5_isOnTrack_7 : decode cX5_isOnTrack 7 = .ok (.ireturn, 1) := by decide +kernel
set_option maxRecDepth 20000 in
theorem ggX5_streetsOf_X5_isSquare : GoodIn wsX5_streetsOf wsX5_isSquare := goodIn_r _ [6, 7, 8, 5, 9] (by decide +kernel) (by decide +kernel)
set_option maxRecDepth 20000 in
theorem gX5_streetsOf_X5_isSquare : GoodIn wsX5_streetsOf (va_wsS RX5 101 yX5_isSquare wsX5_isSquare) := goodIn_app (goodIn_of _ (by decide +kernel)) ggX5_streetsOf_X5_isSquare
set_option maxRecDepth 20000 in
theorem ggX5_streetsOf_X5_goes : GoodIn wsX5_streetsOf wsX5_goes := goodIn_r _ [13, 14, 26, 27, 28, 29, 30, 31, 32, 33, 34, 35, 36, 37, 38, 39, 40, 41, 42] (by decide +kernel) (by decide +kernel)
set_option maxRecDepth 20000 in
theorem gX5_streetsOf_X5_goes : GoodIn wsX5_streetsOf (wsV RX5 104 RX5 yX5_goes wsX5_goes) := goodIn_app (goodIn_of _ (by decide +kernel)) ggX5_streetsOf_X5_goes
set_option maxRecDepth 20000 in
theorem ggX5_streetsOf_X5_tracks : GoodIn wsX5_streetsOf wsX5_tracks := goodIn_r _ [18, 19, 2, 20, 21, 22, 23, 24, 5, 25, 26, 27, 28, 29, 30, 31, 32, 33, 34, 35, 36, 37, 38, 39, 40, 41, 42] (by decide +kernel) (by decide +kernel)
set_option maxRecDepth 20000 in
theorem gX5_streetsOf_X5_tracks : GoodIn wsX5_streetsOf (wsV RX5 86 RX5 yX5_tracks wsX5_tracks) := goodIn_app (goodIn_of _ (by decide +kernel)) ggX5_streetsOf_X5_tracks
theorem dX5_streetsOf_0 : decode cX5_streetsOf 0 = .ok (.iconst 0, 1) := by decide +kernel
theorem dX5_streetsOf_1 : decode cX5_streetsOf 1 = .ok (.istore_n 3, 1) := by decide +kernel
theorem dX5_streetsOf_2 : decode cX5_streetsOf 2 = .ok (.aload_n 0, 1) := by decide +kernel
theorem dX5_streetsOf_3 : decode cX5_streetsOf 3 = .ok (.iload_n 1, 1) := by decide +kernel
theorem dX5_streetsOf_4 : decode cX5_streetsOf 4 = .ok (.iload_n 2, 1) := by decide +kernel
theorem dX5_streetsOf_5 : decode cX5_streetsOf 5 = .ok (.invokestatic 101, 3) := by decide +kernel
theorem dX5_streetsOf_8 : decode cX5_streetsOf 8 = .ok (.iconst 1, 1) := by decide +kernel
theorem dX5_streetsOf_9 : decode cX5_streetsOf 9 = .ok (.iconst 1, 1) := by decide +kernel
theorem dX5_streetsOf_10 : decode cX5_streetsOf 10 = .ok (.invokevirtual 104, 3) := by decide +kernel
theorem dX5_streetsOf_13 : decode cX5_streetsOf 13 = .ok (.istore 4, 2) := by decide +kernel
theorem dX5_streetsOf_15 : decode cX5_streetsOf 15 = .ok (.iconst 0, 1) := by decide +kernel
theorem dX5_streetsOf_16 : decode cX5_streetsOf 16 = .ok (.istore 5, 2) := by decide +kernel
theorem dX5_streetsOf_18 : decode cX5_streetsOf 18 = .ok (.iload 5, 2) := by decide +kernel
theorem dX5_streetsOf_20 : decode cX5_streetsOf 20 = .ok (.aload_n 0, 1) := by decide +kernel
theorem dX5_streetsOf_21 : decode cX5_streetsOf 21 = .ok (.getfield 58, 3) := by decide +kernel
theorem dX5_streetsOf_24 : decode cX5_streetsOf 24 = .ok (.if_icmp .ge 45, 3) := by decide +kernel
theorem dX5_streetsOf_27 : decode cX5_streetsOf 27 = .ok (.iload 4, 2) := by decide +kernel
theorem dX5_streetsOf_29 : decode cX5_streetsOf 29 = .ok (.ifCond .eq 40, 3) := by decide +kernel
theorem dX5_streetsOf_32 : decode cX5_streetsOf 32 = .ok (.aload_n 0, 1) := by decide +kernel
theorem dX5_streetsOf_33 : decode cX5_streetsOf 33 = .ok (.iload 5, 2) := by decide +kernel
theorem dX5_streetsOf_35 : decode cX5_streetsOf 35 = .ok (.invokevirtual 86, 3) := by decide +kernel
theorem dX5_streetsOf_38 : decode cX5_streetsOf 38 = .ok (.iload_n 3, 1) := by decide +kernel
theorem dX5_streetsOf_39 : decode cX5_streetsOf 39 = .ok (.aload_n 0, 1) := by decide +kernel
theorem dX5_streetsOf_40 : decode cX5_streetsOf 40 = .ok (.getfield 35, 3) := by decide +kernel
theorem dX5_streetsOf_43 : decode cX5_streetsOf 43 = .ok (.bipush 12, 2) := by decide +kernel
theorem dX5_streetsOf_45 : decode cX5_streetsOf 45 = .ok (.iload_n 1, 1) := by decide +kernel
theorem dX5_streetsOf_46 : decode cX5_streetsOf 46 = .ok (.imul, 1) := by decide +kernel
theorem dX5_streetsOf_47 : decode cX5_streetsOf 47 = .ok (.iload_n 2, 1) := by decide +kernel
theorem dX5_streetsOf_48 : decode cX5_streetsOf 48 = .ok (.iadd, 1) := by decide +kernel
theorem dX5_streetsOf_49 : decode cX5_streetsOf 49 = .ok (.baload, 1) := by decide +kernel
theorem dX5_streetsOf_50 : decode cX5_streetsOf 50 = .ok (.ifCond .eq 10, 3) := by decide +kernel
theorem dX5_streetsOf_53 : decode cX5_streetsOf 53 = .ok (.iconst 1, 1) := by decide +kernel
theorem dX5_streetsOf_54 : decode cX5_streetsOf 54 = .ok (.iload 5, 2) := by decide +kernel
theorem dX5_streetsOf_56 : decode cX5_streetsOf 56 = .ok (.ishl, 1) := by decide +kernel
theorem dX5_streetsOf_57 : decode cX5_streetsOf 57 = .ok (.goto 4, 3) := by decide +kernel
theorem dX5_streetsOf_60 : decode cX5_streetsOf 60 = .ok (.iconst 0, 1) := by decide +kernel
theorem dX5_streetsOf_61 : decode cX5_streetsOf 61 = .ok (.ior, 1) := by decide +kernel
theorem dX5_streetsOf_62 : decode cX5_streetsOf 62 = .ok (.istore_n 3, 1) := by decide +kernel
theorem dX5_streetsOf_63 : decode cX5_streetsOf 63 = .ok (.iinc 5 1, 3) := by decide +kernel
theorem dX5_streetsOf_66 : decode cX5_streetsOf 66 = .ok (.goto (-48), 3) := by decide +kernel
theorem dX5_streetsOf_69 : decode cX5_streetsOf 69 = .ok (.iload_n 3, 1) := by decide +kernel
theorem dX5_streetsOf_70 : decode cX5_streetsOf 70 = .ok (.ireturn, 1) := by decide +kernel
theorem dX5_apart_0 : decode cX5_apart 0 = .ok (.iload_n 0, 1) := by decide +kernel
theorem dX5_apart_1 : decode cX5_apart 1 = .ok (.iload_n 1, 1) := by decide +kernel
theorem dX5_apart_2 : decode cX5_apart 2 = .ok (.if_icmp .le 9, 3) := by decide +kernel
theorem dX5_apart_5 : decode cX5_apart 5 = .ok (.iload_n 0, 1) := by decide +kernel
theorem dX5_apart_6 : decode cX5_apart 6 = .ok (.iload_n 1, 1) := by decide +kernel
theorem dX5_apart_7 : decode cX5_apart 7 = .ok (.isub, 1) := by decide +kernel
theorem dX5_apart_8 : decode cX5_apart 8 = .ok (.goto 6, 3) := by decide +kernel
theorem dX5_apart_11 : decode cX5_apart 11 = .ok (.iload_n 1, 1) := by decide +kernel
theorem dX5_apart_12 : decode cX5_apart 12 = .ok (.iload_n 0, 1) := by decide +kernel
theorem dX5_apart_13 : decode cX5_apart 13 = .ok (.isub, 1) := by decide +kernel
theorem dX5_apart_14 : decode cX5_apart 14 = .ok (.ireturn, 1) := by decide +kernel
set_option maxRecDepth 20000 in
theorem ggX5_farFrom_X5_apart : GoodIn wsX5_farFrom wsX5_apart := goodIn_r _ [4] (by decide +kernel) (by decide +kernel)
set_option maxRecDepth 20000 in
theorem gX5_farFrom_X5_apart : GoodIn wsX5_farFrom (va_wsS RX5 137 yX5_apart wsX5_apart) := goodIn_app (goodIn_of _ (by decide +kernel)) ggX5_farFrom_X5_apart
theorem dX5_farFrom_0 : decode cX5_farFrom 0 = .ok (.iload_n 0, 1) := by decide +kernel
theorem dX5_farFrom_1 : decode cX5_farFrom 1 = .ok (.bipush 12, 2) := by decide +kernel
theorem dX5_farFrom_3 : decode cX5_farFrom 3 = .ok (.idiv, 1) := by decide +kernel
theorem dX5_farFrom_4 : decode cX5_farFrom 4 = .ok (.iload_n 1, 1) := by decide +kernel
theorem dX5_farFrom_5 : decode cX5_farFrom 5 = .ok (.invokestatic 137, 3) := by decide +kernel
theorem dX5_farFrom_8 : decode cX5_farFrom 8 = .ok (.istore_n 3, 1) := by decide +kernel
theorem dX5_farFrom_9 : decode cX5_farFrom 9 = .ok (.iload_n 0, 1) := by decide +kernel
theorem dX5_farFrom_10 : decode cX5_farFrom 10 = .ok (.bipush 12, 2) := by decide +kernel
theorem dX5_farFrom_12 : decode cX5_farFrom 12 = .ok (.irem, 1) := by decide +kernel
theorem dX5_farFrom_13 : decode cX5_farFrom 13 = .ok (.iload_n 2, 1) := by decide +kernel
theorem dX5_farFrom_14 : decode cX5_farFrom 14 = .ok (.invokestatic 137, 3) := by decide +kernel
theorem dX5_farFrom_17 : decode cX5_farFrom 17 = .ok (.istore 4, 2) := by decide +kernel
theorem dX5_farFrom_19 : decode cX5_farFrom 19 = .ok (.iload_n 3, 1) := by decide +kernel
theorem dX5_farFrom_20 : decode cX5_farFrom 20 = .ok (.iload 4, 2) := by decide +kernel
theorem dX5_farFrom_22 : decode cX5_farFrom 22 = .ok (.if_icmp .le 7, 3) := by decide +kernel
theorem dX5_farFrom_25 : decode cX5_farFrom 25 = .ok (.iload_n 3, 1) := by decide +kernel
theorem dX5_farFrom_26 : decode cX5_farFrom 26 = .ok (.goto 5, 3) := by decide +kernel
theorem dX5_farFrom_29 : decode cX5_farFrom 29 = .ok (.iload 4, 2) := by decide +kernel
theorem dX5_farFrom_31 : decode cX5_farFrom 31 = .ok (.ireturn, 1) := by decide +kernel
set_option maxRecDepth 20000 in
theorem ggX5_nearestOf_X5_tracks : GoodIn wsX5_nearestOf wsX5_tracks := goodIn_r _ [6, 7, 1, 8, 9, 10, 11, 12, 5, 13, 20, 21, 22, 23, 24, 25, 26, 27, 28, 29, 30, 31, 32, 33, 34, 35, 36] (by decide +kernel) (by decide +kernel)
set_option maxRecDepth 20000 in
theorem gX5_nearestOf_X5_tracks : GoodIn wsX5_nearestOf (wsV RX5 86 RX5 yX5_tracks wsX5_tracks) := goodIn_app (goodIn_of _ (by decide +kernel)) ggX5_nearestOf_X5_tracks
set_option maxRecDepth 20000 in
theorem ggX5_nearestOf_X5_farFrom : GoodIn wsX5_nearestOf wsX5_farFrom := goodIn_r _ [16, 17, 18, 5, 19] (by decide +kernel) (by decide +kernel)
set_option maxRecDepth 20000 in
theorem gX5_nearestOf_X5_farFrom : GoodIn wsX5_nearestOf (va_wsS RX5 140 yX5_farFrom wsX5_farFrom) := goodIn_app (goodIn_of _ (by decide +kernel)) ggX5_nearestOf_X5_farFrom
theorem dX5_nearestOf_0 : decode cX5_nearestOf 0 = .ok (.aload_n 0, 1) := by decide +kernel
theorem dX5_nearestOf_1 : decode cX5_nearestOf 1 = .ok (.iload_n 1, 1) := by decide +kernel
theorem dX5_nearestOf_2 : decode cX5_nearestOf 2 = .ok (.invokevirtual 86, 3) := by decide +kernel
theorem dX5_nearestOf_5 : decode cX5_nearestOf 5 = .ok (.iconst (-1), 1) := by decide +kernel
theorem dX5_nearestOf_6 : decode cX5_nearestOf 6 = .ok (.istore 4, 2) := by decide +kernel
theorem dX5_nearestOf_8 : decode cX5_nearestOf 8 = .ok (.iconst 0, 1) := by decide +kernel
theorem dX5_nearestOf_9 : decode cX5_nearestOf 9 = .ok (.istore 5, 2) := by decide +kernel
theorem dX5_nearestOf_11 : decode cX5_nearestOf 11 = .ok (.iload 5, 2) := by decide +kernel
theorem dX5_nearestOf_13 : decode cX5_nearestOf 13 = .ok (.sipush 144, 3) := by decide +kernel
theorem dX5_nearestOf_16 : decode cX5_nearestOf 16 = .ok (.if_icmp .ge 50, 3) := by decide +kernel
theorem dX5_nearestOf_19 : decode cX5_nearestOf 19 = .ok (.aload_n 0, 1) := by decide +kernel
theorem dX5_nearestOf_20 : decode cX5_nearestOf 20 = .ok (.getfield 35, 3) := by decide +kernel
theorem dX5_nearestOf_23 : decode cX5_nearestOf 23 = .ok (.iload 5, 2) := by decide +kernel
theorem dX5_nearestOf_25 : decode cX5_nearestOf 25 = .ok (.baload, 1) := by decide +kernel
theorem dX5_nearestOf_26 : decode cX5_nearestOf 26 = .ok (.ifCond .eq 30, 3) := by decide +kernel
theorem dX5_nearestOf_29 : decode cX5_nearestOf 29 = .ok (.iload 4, 2) := by decide +kernel
theorem dX5_nearestOf_31 : decode cX5_nearestOf 31 = .ok (.ifCond .lt 20, 3) := by decide +kernel
theorem dX5_nearestOf_34 : decode cX5_nearestOf 34 = .ok (.iload 5, 2) := by decide +kernel
theorem dX5_nearestOf_36 : decode cX5_nearestOf 36 = .ok (.iload_n 2, 1) := by decide +kernel
theorem dX5_nearestOf_37 : decode cX5_nearestOf 37 = .ok (.iload_n 3, 1) := by decide +kernel
theorem dX5_nearestOf_38 : decode cX5_nearestOf 38 = .ok (.invokestatic 140, 3) := by decide +kernel
theorem dX5_nearestOf_41 : decode cX5_nearestOf 41 = .ok (.iload 4, 2) := by decide +kernel
theorem dX5_nearestOf_43 : decode cX5_nearestOf 43 = .ok (.iload_n 2, 1) := by decide +kernel
theorem dX5_nearestOf_44 : decode cX5_nearestOf 44 = .ok (.iload_n 3, 1) := by decide +kernel
theorem dX5_nearestOf_45 : decode cX5_nearestOf 45 = .ok (.invokestatic 140, 3) := by decide +kernel
theorem dX5_nearestOf_48 : decode cX5_nearestOf 48 = .ok (.if_icmp .ge 8, 3) := by decide +kernel
theorem dX5_nearestOf_51 : decode cX5_nearestOf 51 = .ok (.iload 5, 2) := by decide +kernel
theorem dX5_nearestOf_53 : decode cX5_nearestOf 53 = .ok (.goto 5, 3) := by decide +kernel
theorem dX5_nearestOf_56 : decode cX5_nearestOf 56 = .ok (.iload 4, 2) := by decide +kernel
theorem dX5_nearestOf_58 : decode cX5_nearestOf 58 = .ok (.istore 4, 2) := by decide +kernel
theorem dX5_nearestOf_60 : decode cX5_nearestOf 60 = .ok (.iinc 5 1, 3) := by decide +kernel
theorem dX5_nearestOf_63 : decode cX5_nearestOf 63 = .ok (.goto (-52), 3) := by decide +kernel
theorem dX5_nearestOf_66 : decode cX5_nearestOf 66 = .ok (.iload 4, 2) := by decide +kernel
theorem dX5_nearestOf_68 : decode cX5_nearestOf 68 = .ok (.ireturn, 1) := by decide +kernel
set_option maxRecDepth 20000 in
theorem ggX5_distance_X5_isStreet : GoodIn wsX5_distance wsX5_isStreet := goodIn_r _ [5, 6, 7, 8, 4, 9, 40, 41, 42, 43, 44, 45, 46, 47, 48, 49, 50, 51, 52, 53, 54, 55, 56] (by decide +kernel) (by decide +kernel)
set_option maxRecDepth 20000 in
theorem gX5_distance_X5_isStreet : GoodIn wsX5_distance (wsV RX5 97 RX5 yX5_isStreet wsX5_isStreet) := goodIn_app (goodIn_of _ (by decide +kernel)) ggX5_distance_X5_isStreet
set_option maxRecDepth 20000 in
theorem ggX5_distance_X5_isSquare : GoodIn wsX5_distance wsX5_isSquare := goodIn_r _ [12, 7, 8, 4, 9] (by decide +kernel) (by decide +kernel)
set_option maxRecDepth 20000 in
theorem gX5_distance_X5_isSquare : GoodIn wsX5_distance (va_wsS RX5 101 yX5_isSquare wsX5_isSquare) := goodIn_app (goodIn_of _ (by decide +kernel)) ggX5_distance_X5_isSquare
set_option maxRecDepth 20000 in
theorem ggX5_distance_X5_goes : GoodIn wsX5_distance wsX5_goes := goodIn_r _ [16, 17, 40, 41, 42, 43, 44, 45, 46, 47, 48, 49, 50, 51, 52, 53, 54, 55, 56] (by decide +kernel) (by decide +kernel)
set_option maxRecDepth 20000 in
theorem gX5_distance_X5_goes : GoodIn wsX5_distance (wsV RX5 104 RX5 yX5_goes wsX5_goes) := goodIn_app (goodIn_of _ (by decide +kernel)) ggX5_distance_X5_goes
set_option maxRecDepth 20000 in
theorem ggX5_distance_X5_nearestOf : GoodIn wsX5_distance wsX5_nearestOf := goodIn_r _ [21, 22, 23, 24, 25, 4, 26, 27, 28, 29, 30, 31, 32, 33, 34, 35, 36, 37, 38, 39, 40, 41, 42, 43, 44, 45, 46, 47, 48, 49, 50, 51, 52, 53, 54, 55, 56] (by decide +kernel) (by decide +kernel)
set_option maxRecDepth 20000 in
theorem gX5_distance_X5_nearestOf : GoodIn wsX5_distance (wsV RX5 144 RX5 yX5_nearestOf wsX5_nearestOf) := goodIn_app (goodIn_of _ (by decide +kernel)) ggX5_distance_X5_nearestOf
set_option maxRecDepth 20000 in
theorem ggX5_distance_X5_farFrom : GoodIn wsX5_distance wsX5_farFrom := goodIn_r _ [36, 37, 38, 4, 39] (by decide +kernel) (by decide +kernel)
set_option maxRecDepth 20000 in
theorem gX5_distance_X5_farFrom : GoodIn wsX5_distance (va_wsS RX5 140 yX5_farFrom wsX5_farFrom) := goodIn_app (goodIn_of _ (by decide +kernel)) ggX5_distance_X5_farFrom
theorem dX5_distance_0 : decode cX5_distance 0 = .ok (.aload_n 0, 1) := by decide +kernel
theorem dX5_distance_1 : decode cX5_distance 1 = .ok (.aload_n 0, 1) := by decide +kernel
theorem dX5_distance_2 : decode cX5_distance 2 = .ok (.iload_n 1, 1) := by decide +kernel
theorem dX5_distance_3 : decode cX5_distance 3 = .ok (.invokevirtual 97, 3) := by decide +kernel
theorem dX5_distance_6 : decode cX5_distance 6 = .ok (.ifCond .eq 15, 3) := by decide +kernel
theorem dX5_distance_9 : decode cX5_distance 9 = .ok (.iload_n 2, 1) := by decide +kernel
theorem dX5_distance_10 : decode cX5_distance 10 = .ok (.iload_n 3, 1) := by decide +kernel
theorem dX5_distance_11 : decode cX5_distance 11 = .ok (.invokestatic 101, 3) := by decide +kernel
theorem dX5_distance_14 : decode cX5_distance 14 = .ok (.ifCond .eq 7, 3) := by decide +kernel
theorem dX5_distance_17 : decode cX5_distance 17 = .ok (.iconst 1, 1) := by decide +kernel
theorem dX5_distance_18 : decode cX5_distance 18 = .ok (.goto 4, 3) := by decide +kernel
theorem dX5_distance_21 : decode cX5_distance 21 = .ok (.iconst 0, 1) := by decide +kernel
theorem dX5_distance_22 : decode cX5_distance 22 = .ok (.iconst 1, 1) := by decide +kernel
theorem dX5_distance_23 : decode cX5_distance 23 = .ok (.iconst 1, 1) := by decide +kernel
theorem dX5_distance_24 : decode cX5_distance 24 = .ok (.invokevirtual 104, 3) := by decide +kernel
theorem dX5_distance_27 : decode cX5_distance 27 = .ok (.ifCond .ne 5, 3) := by decide +kernel
theorem dX5_distance_30 : decode cX5_distance 30 = .ok (.iconst 0, 1) := by decide +kernel
theorem dX5_distance_31 : decode cX5_distance 31 = .ok (.ireturn, 1) := by decide +kernel
theorem dX5_distance_32 : decode cX5_distance 32 = .ok (.aload_n 0, 1) := by decide +kernel
theorem dX5_distance_33 : decode cX5_distance 33 = .ok (.iload_n 1, 1) := by decide +kernel
theorem dX5_distance_34 : decode cX5_distance 34 = .ok (.iload_n 2, 1) := by decide +kernel
theorem dX5_distance_35 : decode cX5_distance 35 = .ok (.iload_n 3, 1) := by decide +kernel
theorem dX5_distance_36 : decode cX5_distance 36 = .ok (.invokevirtual 144, 3) := by decide +kernel
theorem dX5_distance_39 : decode cX5_distance 39 = .ok (.istore 4, 2) := by decide +kernel
theorem dX5_distance_41 : decode cX5_distance 41 = .ok (.iload 4, 2) := by decide +kernel
theorem dX5_distance_43 : decode cX5_distance 43 = .ok (.ifCond .ge 7, 3) := by decide +kernel
theorem dX5_distance_46 : decode cX5_distance 46 = .ok (.iconst (-1), 1) := by decide +kernel
theorem dX5_distance_47 : decode cX5_distance 47 = .ok (.goto 10, 3) := by decide +kernel
theorem dX5_distance_50 : decode cX5_distance 50 = .ok (.iload 4, 2) := by decide +kernel
theorem dX5_distance_52 : decode cX5_distance 52 = .ok (.iload_n 2, 1) := by decide +kernel
theorem dX5_distance_53 : decode cX5_distance 53 = .ok (.iload_n 3, 1) := by decide +kernel
theorem dX5_distance_54 : decode cX5_distance 54 = .ok (.invokestatic 140, 3) := by decide +kernel
theorem dX5_distance_57 : decode cX5_distance 57 = .ok (.ireturn, 1) := by decide +kernel
set_option maxRecDepth 20000 in
theorem ggX5_nearest_X5_isStreet : GoodIn wsX5_nearest wsX5_isStreet := goodIn_r _ [5, 6, 7, 8, 4, 9, 40, 41, 42, 43, 44, 45, 46, 47, 48, 49, 50, 51, 52, 53, 54, 55, 56] (by decide +kernel) (by decide +kernel)
set_option maxRecDepth 20000 in
theorem gX5_nearest_X5_isStreet : GoodIn wsX5_nearest (wsV RX5 97 RX5 yX5_isStreet wsX5_isStreet) := goodIn_app (goodIn_of _ (by decide +kernel)) ggX5_nearest_X5_isStreet
set_option maxRecDepth 20000 in
theorem ggX5_nearest_X5_isSquare : GoodIn wsX5_nearest wsX5_isSquare := goodIn_r _ [12, 7, 8, 4, 9] (by decide +kernel) (by decide +kernel)
set_option maxRecDepth 20000 in
theorem gX5_nearest_X5_isSquare : GoodIn wsX5_nearest (va_wsS RX5 101 yX5_isSquare wsX5_isSquare) := goodIn_app (goodIn_of _ (by decide +kernel)) ggX5_nearest_X5_isSquare
set_option maxRecDepth 20000 in
theorem ggX5_nearest_X5_goes : GoodIn wsX5_nearest wsX5_goes := goodIn_r _ [16, 17, 40, 41, 42, 43, 44, 45, 46, 47, 48, 49, 50, 51, 52, 53, 54, 55, 56] (by decide +kernel) (by decide +kernel)
set_option maxRecDepth 20000 in
theorem gX5_nearest_X5_goes : GoodIn wsX5_nearest (wsV RX5 104 RX5 yX5_goes wsX5_goes) := goodIn_app (goodIn_of _ (by decide +kernel)) ggX5_nearest_X5_goes
set_option maxRecDepth 20000 in
theorem ggX5_nearest_X5_nearestOf : GoodIn wsX5_nearest wsX5_nearestOf := goodIn_r _ [21, 22, 23, 24, 25, 4, 26, 27, 28, 29, 30, 31, 32, 33, 34, 35, 36, 37, 38, 39, 40, 41, 42, 43, 44, 45, 46, 47, 48, 49, 50, 51, 52, 53, 54, 55, 56] (by decide +kernel) (by decide +kernel)
set_option maxRecDepth 20000 in
theorem gX5_nearest_X5_nearestOf : GoodIn wsX5_nearest (wsV RX5 144 RX5 yX5_nearestOf wsX5_nearestOf) := goodIn_app (goodIn_of _ (by decide +kernel)) ggX5_nearest_X5_nearestOf
theorem dX5_nearest_0 : decode cX5_nearest 0 = .ok (.aload_n 0, 1) := by decide +kernel
theorem dX5_nearest_1 : decode cX5_nearest 1 = .ok (.aload_n 0, 1) := by decide +kernel
theorem dX5_nearest_2 : decode cX5_nearest 2 = .ok (.iload_n 1, 1) := by decide +kernel
theorem dX5_nearest_3 : decode cX5_nearest 3 = .ok (.invokevirtual 97, 3) := by decide +kernel
theorem dX5_nearest_6 : decode cX5_nearest 6 = .ok (.ifCond .eq 15, 3) := by decide +kernel
theorem dX5_nearest_9 : decode cX5_nearest 9 = .ok (.iload_n 2, 1) := by decide +kernel
theorem dX5_nearest_10 : decode cX5_nearest 10 = .ok (.iload_n 3, 1) := by decide +kernel
theorem dX5_nearest_11 : decode cX5_nearest 11 = .ok (.invokestatic 101, 3) := by decide +kernel
theorem dX5_nearest_14 : decode cX5_nearest 14 = .ok (.ifCond .eq 7, 3) := by decide +kernel
theorem dX5_nearest_17 : decode cX5_nearest 17 = .ok (.iconst 1, 1) := by decide +kernel
theorem dX5_nearest_18 : decode cX5_nearest 18 = .ok (.goto 4, 3) := by decide +kernel
theorem dX5_nearest_21 : decode cX5_nearest 21 = .ok (.iconst 0, 1) := by decide +kernel
theorem dX5_nearest_22 : decode cX5_nearest 22 = .ok (.iconst 1, 1) := by decide +kernel
theorem dX5_nearest_23 : decode cX5_nearest 23 = .ok (.iconst 1, 1) := by decide +kernel
theorem dX5_nearest_24 : decode cX5_nearest 24 = .ok (.invokevirtual 104, 3) := by decide +kernel
theorem dX5_nearest_27 : decode cX5_nearest 27 = .ok (.ifCond .eq 13, 3) := by decide +kernel
theorem dX5_nearest_30 : decode cX5_nearest 30 = .ok (.aload_n 0, 1) := by decide +kernel
theorem dX5_nearest_31 : decode cX5_nearest 31 = .ok (.iload_n 1, 1) := by decide +kernel
theorem dX5_nearest_32 : decode cX5_nearest 32 = .ok (.iload_n 2, 1) := by decide +kernel
theorem dX5_nearest_33 : decode cX5_nearest 33 = .ok (.iload_n 3, 1) := by decide +kernel
theorem dX5_nearest_34 : decode cX5_nearest 34 = .ok (.invokevirtual 144, 3) := by decide +kernel
theorem dX5_nearest_37 : decode cX5_nearest 37 = .ok (.goto 4, 3) := by decide +kernel
theorem dX5_nearest_40 : decode cX5_nearest 40 = .ok (.iconst 0, 1) := by decide +kernel
theorem dX5_nearest_41 : decode cX5_nearest 41 = .ok (.ireturn, 1) := by decide +kernel
theorem dX5_passes_0 : decode cX5_passes 0 = .ok (.aload_n 0, 1) := by decide +kernel
theorem dX5_passes_1 : decode cX5_passes 1 = .ok (.getfield 47, 3) := by decide +kernel
theorem dX5_passes_4 : decode cX5_passes 4 = .ok (.iload_n 1, 1) := by decide +kernel
theorem dX5_passes_5 : decode cX5_passes 5 = .ok (.iaload, 1) := by decide +kernel
theorem dX5_passes_6 : decode cX5_passes 6 = .ok (.iconst 1, 1) := by decide +kernel
theorem dX5_passes_7 : decode cX5_passes 7 = .ok (.iadd, 1) := by decide +kernel
theorem dX5_passes_8 : decode cX5_passes 8 = .ok (.aload_n 0, 1) := by decide +kernel
theorem dX5_passes_9 : decode cX5_passes 9 = .ok (.getfield 47, 3) := by decide +kernel
theorem dX5_passes_12 : decode cX5_passes 12 = .ok (.iload_n 2, 1) := by decide +kernel
theorem dX5_passes_13 : decode cX5_passes 13 = .ok (.iaload, 1) := by decide +kernel
theorem dX5_passes_14 : decode cX5_passes 14 = .ok (.if_icmp .ge 7, 3) := by decide +kernel
theorem dX5_passes_17 : decode cX5_passes 17 = .ok (.iconst 1, 1) := by decide +kernel
theorem dX5_passes_18 : decode cX5_passes 18 = .ok (.goto 4, 3) := by decide +kernel
theorem dX5_passes_21 : decode cX5_passes 21 = .ok (.iconst 0, 1) := by decide +kernel
theorem dX5_passes_22 : decode cX5_passes 22 = .ok (.istore_n 3, 1) := by decide +kernel
theorem dX5_passes_23 : decode cX5_passes 23 = .ok (.aload_n 0, 1) := by decide +kernel
theorem dX5_passes_24 : decode cX5_passes 24 = .ok (.getfield 47, 3) := by decide +kernel
theorem dX5_passes_27 : decode cX5_passes 27 = .ok (.iload_n 2, 1) := by decide +kernel
theorem dX5_passes_28 : decode cX5_passes 28 = .ok (.iload_n 3, 1) := by decide +kernel
theorem dX5_passes_29 : decode cX5_passes 29 = .ok (.ifCond .eq 14, 3) := by decide +kernel
theorem dX5_passes_32 : decode cX5_passes 32 = .ok (.aload_n 0, 1) := by decide +kernel
theorem dX5_passes_33 : decode cX5_passes 33 = .ok (.getfield 47, 3) := by decide +kernel
theorem dX5_passes_36 : decode cX5_passes 36 = .ok (.iload_n 1, 1) := by decide +kernel
theorem dX5_passes_37 : decode cX5_passes 37 = .ok (.iaload, 1) := by decide +kernel
theorem dX5_passes_38 : decode cX5_passes 38 = .ok (.iconst 1, 1) := by decide +kernel
theorem dX5_passes_39 : decode cX5_passes 39 = .ok (.iadd, 1) := by decide +kernel
theorem dX5_passes_40 : decode cX5_passes 40 = .ok (.goto 9, 3) := by decide +kernel
theorem dX5_passes_43 : decode cX5_passes 43 = .ok (.aload_n 0, 1) := by decide +kernel
theorem dX5_passes_44 : decode cX5_passes 44 = .ok (.getfield 47, 3) := by decide +kernel
theorem dX5_passes_47 : decode cX5_passes 47 = .ok (.iload_n 2, 1) := by decide +kernel
theorem dX5_passes_48 : decode cX5_passes 48 = .ok (.iaload, 1) := by decide +kernel
theorem dX5_passes_49 : decode cX5_passes 49 = .ok (.iastore, 1) := by decide +kernel
theorem dX5_passes_50 : decode cX5_passes 50 = .ok (.iload_n 3, 1) := by decide +kernel
theorem dX5_passes_51 : decode cX5_passes 51 = .ok (.ireturn, 1) := by decide +kernel
set_option maxRecDepth 20000 in
theorem ggX5_walks_X5_tracks : GoodIn wsX5_walks wsX5_tracks := goodIn_r _ [11, 4, 12, 13, 14, 5, 15, 16, 10, 17, 22, 23, 24, 25, 26, 27, 28, 29, 30, 31, 32, 33, 34, 35, 36, 37, 38] (by decide +kernel) (by decide +kernel)
set_option maxRecDepth 20000 in
theorem gX5_walks_X5_tracks : GoodIn wsX5_walks (wsV RX5 86 RX5 yX5_tracks wsX5_tracks) := goodIn_app (goodIn_of _ (by decide +kernel)) ggX5_walks_X5_tracks
set_option maxRecDepth 20000 in
theorem ggX5_walks_X5_passes : GoodIn wsX5_walks wsX5_passes := goodIn_r _ [21, 1, 22, 23, 24, 25, 26, 27, 28, 29, 30, 31, 32, 33, 34, 35, 36, 37, 38] (by decide +kernel) (by decide +kernel)
set_option maxRecDepth 20000 in
theorem gX5_walks_X5_passes : GoodIn wsX5_walks (wsV RX5 148 RX5 yX5_passes wsX5_passes) := goodIn_app (goodIn_of _ (by decide +kernel)) ggX5_walks_X5_passes
theorem dX5_walks_0 : decode cX5_walks 0 = .ok (.iconst 0, 1) := by decide +kernel
theorem dX5_walks_1 : decode cX5_walks 1 = .ok (.istore_n 2, 1) := by decide +kernel
theorem dX5_walks_2 : decode cX5_walks 2 = .ok (.iload_n 2, 1) := by decide +kernel
theorem dX5_walks_3 : decode cX5_walks 3 = .ok (.sipush 144, 3) := by decide +kernel
theorem dX5_walks_6 : decode cX5_walks 6 = .ok (.if_icmp .ge 26, 3) := by decide +kernel
theorem dX5_walks_9 : decode cX5_walks 9 = .ok (.aload_n 0, 1) := by decide +kernel
theorem dX5_walks_10 : decode cX5_walks 10 = .ok (.getfield 47, 3) := by decide +kernel
theorem dX5_walks_13 : decode cX5_walks 13 = .ok (.iload_n 2, 1) := by decide +kernel
theorem dX5_walks_14 : decode cX5_walks 14 = .ok (.iload_n 2, 1) := by decide +kernel
theorem dX5_walks_15 : decode cX5_walks 15 = .ok (.iload_n 1, 1) := by decide +kernel
theorem dX5_walks_16 : decode cX5_walks 16 = .ok (.if_icmp .ne 7, 3) := by decide +kernel
theorem dX5_walks_19 : decode cX5_walks 19 = .ok (.iconst 0, 1) := by decide +kernel
theorem dX5_walks_20 : decode cX5_walks 20 = .ok (.goto 5, 3) := by decide +kernel
theorem dX5_walks_23 : decode cX5_walks 23 = .ok (.ldc 147, 2) := by decide +kernel
theorem dX5_walks_25 : decode cX5_walks 25 = .ok (.iastore, 1) := by decide +kernel
theorem dX5_walks_26 : decode cX5_walks 26 = .ok (.iinc 2 1, 3) := by decide +kernel
theorem dX5_walks_29 : decode cX5_walks 29 = .ok (.goto (-27), 3) := by decide +kernel
theorem dX5_walks_32 : decode cX5_walks 32 = .ok (.iconst 1, 1) := by decide +kernel
theorem dX5_walks_33 : decode cX5_walks 33 = .ok (.istore_n 2, 1) := by decide +kernel
theorem dX5_walks_34 : decode cX5_walks 34 = .ok (.iload_n 2, 1) := by decide +kernel
theorem dX5_walks_35 : decode cX5_walks 35 = .ok (.ifCond .eq 124, 3) := by decide +kernel
theorem dX5_walks_38 : decode cX5_walks 38 = .ok (.iconst 0, 1) := by decide +kernel
theorem dX5_walks_39 : decode cX5_walks 39 = .ok (.istore_n 2, 1) := by decide +kernel
theorem dX5_walks_40 : decode cX5_walks 40 = .ok (.iconst 0, 1) := by decide +kernel
theorem dX5_walks_41 : decode cX5_walks 41 = .ok (.istore_n 3, 1) := by decide +kernel
theorem dX5_walks_42 : decode cX5_walks 42 = .ok (.iload_n 3, 1) := by decide +kernel
theorem dX5_walks_43 : decode cX5_walks 43 = .ok (.aload_n 0, 1) := by decide +kernel
theorem dX5_walks_44 : decode cX5_walks 44 = .ok (.getfield 58, 3) := by decide +kernel
theorem dX5_walks_47 : decode cX5_walks 47 = .ok (.if_icmp .ge 109, 3) := by decide +kernel
theorem dX5_walks_50 : decode cX5_walks 50 = .ok (.aload_n 0, 1) := by decide +kernel
theorem dX5_walks_51 : decode cX5_walks 51 = .ok (.iload_n 3, 1) := by decide +kernel
theorem dX5_walks_52 : decode cX5_walks 52 = .ok (.invokevirtual 86, 3) := by decide +kernel
theorem dX5_walks_55 : decode cX5_walks 55 = .ok (.iconst 0, 1) := by decide +kernel
theorem dX5_walks_56 : decode cX5_walks 56 = .ok (.istore 4, 2) := by decide +kernel
theorem dX5_walks_58 : decode cX5_walks 58 = .ok (.iload 4, 2) := by decide +kernel
theorem dX5_walks_60 : decode cX5_walks 60 = .ok (.iconst 1, 1) := by decide +kernel
theorem dX5_walks_61 : decode cX5_walks 61 = .ok (.iadd, 1) := by decide +kernel
theorem dX5_walks_62 : decode cX5_walks 62 = .ok (.aload_n 0, 1) := by decide +kernel
theorem dX5_walks_63 : decode cX5_walks 63 = .ok (.getfield 80, 3) := by decide +kernel
theorem dX5_walks_66 : decode cX5_walks 66 = .ok (.if_icmp .ge 84, 3) := by decide +kernel
theorem dX5_walks_69 : decode cX5_walks 69 = .ok (.aload_n 0, 1) := by decide +kernel
theorem dX5_walks_70 : decode cX5_walks 70 = .ok (.aload_n 0, 1) := by decide +kernel
theorem dX5_walks_71 : decode cX5_walks 71 = .ok (.getfield 32, 3) := by decide +kernel
theorem dX5_walks_74 : decode cX5_walks 74 = .ok (.iload 4, 2) := by decide +kernel
theorem dX5_walks_76 : decode cX5_walks 76 = .ok (.iaload, 1) := by decide +kernel
theorem dX5_walks_77 : decode cX5_walks 77 = .ok (.aload_n 0, 1) := by decide +kernel
theorem dX5_walks_78 : decode cX5_walks 78 = .ok (.getfield 32, 3) := by decide +kernel
theorem dX5_walks_81 : decode cX5_walks 81 = .ok (.iload 4, 2) := by decide +kernel
theorem dX5_walks_83 : decode cX5_walks 83 = .ok (.iconst 1, 1) := by decide +kernel
theorem dX5_walks_84 : decode cX5_walks 84 = .ok (.iadd, 1) := by decide +kernel
theorem dX5_walks_85 : decode cX5_walks 85 = .ok (.iaload, 1) := by decide +kernel
theorem dX5_walks_86 : decode cX5_walks 86 = .ok (.invokevirtual 148, 3) := by decide +kernel
theorem dX5_walks_89 : decode cX5_walks 89 = .ok (.ifCond .ne 7, 3) := by decide +kernel
theorem dX5_walks_92 : decode cX5_walks 92 = .ok (.iload_n 2, 1) := by decide +kernel
theorem dX5_walks_93 : decode cX5_walks 93 = .ok (.ifCond .eq 7, 3) := by decide +kernel
theorem dX5_walks_96 : decode cX5_walks 96 = .ok (.iconst 1, 1) := by decide +kernel
theorem dX5_walks_97 : decode cX5_walks 97 = .ok (.goto 4, 3) := by decide +kernel
theorem dX5_walks_100 : decode cX5_walks 100 = .ok (.iconst 0, 1) := by decide +kernel
theorem dX5_walks_101 : decode cX5_walks 101 = .ok (.istore_n 2, 1) := by decide +kernel
theorem dX5_walks_102 : decode cX5_walks 102 = .ok (.aload_n 0, 1) := by decide +kernel
theorem dX5_walks_103 : decode cX5_walks 103 = .ok (.getfield 28, 3) := by decide +kernel
theorem dX5_walks_106 : decode cX5_walks 106 = .ok (.iload_n 3, 1) := by decide +kernel
theorem dX5_walks_107 : decode cX5_walks 107 = .ok (.baload, 1) := by decide +kernel
theorem dX5_walks_108 : decode cX5_walks 108 = .ok (.ifCond .ne 26, 3) := by decide +kernel
theorem dX5_walks_111 : decode cX5_walks 111 = .ok (.aload_n 0, 1) := by decide +kernel
theorem dX5_walks_112 : decode cX5_walks 112 = .ok (.aload_n 0, 1) := by decide +kernel
theorem dX5_walks_113 : decode cX5_walks 113 = .ok (.getfield 32, 3) := by decide +kernel
theorem dX5_walks_116 : decode cX5_walks 116 = .ok (.iload 4, 2) := by decide +kernel
theorem dX5_walks_118 : decode cX5_walks 118 = .ok (.iconst 1, 1) := by decide +kernel
theorem dX5_walks_119 : decode cX5_walks 119 = .ok (.iadd, 1) := by decide +kernel
theorem dX5_walks_120 : decode cX5_walks 120 = .ok (.iaload, 1) := by decide +kernel
theorem dX5_walks_121 : decode cX5_walks 121 = .ok (.aload_n 0, 1) := by decide +kernel
theorem dX5_walks_122 : decode cX5_walks 122 = .ok (.getfield 32, 3) := by decide +kernel
theorem dX5_walks_125 : decode cX5_walks 125 = .ok (.iload 4, 2) := by decide +kernel
theorem dX5_walks_127 : decode cX5_walks 127 = .ok (.iaload, 1) := by decide +kernel
theorem dX5_walks_128 : decode cX5_walks 128 = .ok (.invokevirtual 148, 3) := by decide +kernel
theorem dX5_walks_131 : decode cX5_walks 131 = .ok (.ifCond .ne 7, 3) := by decide +kernel
theorem dX5_walks_134 : decode cX5_walks 134 = .ok (.iload_n 2, 1) := by decide +kernel
theorem dX5_walks_135 : decode cX5_walks 135 = .ok (.ifCond .eq 7, 3) := by decide +kernel
theorem dX5_walks_138 : decode cX5_walks 138 = .ok (.iconst 1, 1) := by decide +kernel
theorem dX5_walks_139 : decode cX5_walks 139 = .ok (.goto 4, 3) := by decide +kernel
theorem dX5_walks_142 : decode cX5_walks 142 = .ok (.iconst 0, 1) := by decide +kernel
theorem dX5_walks_143 : decode cX5_walks 143 = .ok (.istore_n 2, 1) := by decide +kernel
theorem dX5_walks_144 : decode cX5_walks 144 = .ok (.iinc 4 1, 3) := by decide +kernel
theorem dX5_walks_147 : decode cX5_walks 147 = .ok (.goto (-89), 3) := by decide +kernel
theorem dX5_walks_150 : decode cX5_walks 150 = .ok (.iinc 3 1, 3) := by decide +kernel
theorem dX5_walks_153 : decode cX5_walks 153 = .ok (.goto (-111), 3) := by decide +kernel
theorem dX5_walks_156 : decode cX5_walks 156 = .ok (.goto (-122), 3) := by decide +kernel
theorem dX5_walks_159 : decode cX5_walks 159 = .ok (.return_, 1) := by decide +kernel
set_option maxRecDepth 20000 in
theorem ggX5_walk_X5_isSquare : GoodIn wsX5_walk wsX5_isSquare := goodIn_r _ [6, 7, 8, 5, 9] (by decide +kernel) (by decide +kernel)
set_option maxRecDepth 20000 in
theorem gX5_walk_X5_isSquare : GoodIn wsX5_walk (va_wsS RX5 101 yX5_isSquare wsX5_isSquare) := goodIn_app (goodIn_of _ (by decide +kernel)) ggX5_walk_X5_isSquare
set_option maxRecDepth 20000 in
theorem ggX5_walk_X5_goes : GoodIn wsX5_walk wsX5_goes := goodIn_r _ [13, 14, 37, 38, 39, 40, 41, 42, 43, 44, 45, 46, 47, 48, 49, 50, 51, 52, 53] (by decide +kernel) (by decide +kernel)
set_option maxRecDepth 20000 in
theorem gX5_walk_X5_goes : GoodIn wsX5_walk (wsV RX5 104 RX5 yX5_goes wsX5_goes) := goodIn_app (goodIn_of _ (by decide +kernel)) ggX5_walk_X5_goes
set_option maxRecDepth 20000 in
theorem ggX5_walk_X5_walks : GoodIn wsX5_walk wsX5_walks := goodIn_r _ [18, 1, 2, 19, 20, 21, 22, 23, 24, 25, 5, 26, 27, 28, 29, 30, 31, 32, 33, 34, 35, 36, 37, 38, 39, 40, 41, 42, 43, 44, 45, 46, 47, 48, 49, 50, 51, 52, 53] (by decide +kernel) (by decide +kernel)
set_option maxRecDepth 20000 in
theorem gX5_walk_X5_walks : GoodIn wsX5_walk (wsV RX5 151 RX5 yX5_walks wsX5_walks) := goodIn_app (goodIn_of _ (by decide +kernel)) ggX5_walk_X5_walks
theorem dX5_walk_0 : decode cX5_walk 0 = .ok (.aload_n 0, 1) := by decide +kernel
theorem dX5_walk_1 : decode cX5_walk 1 = .ok (.iload_n 1, 1) := by decide +kernel
theorem dX5_walk_2 : decode cX5_walk 2 = .ok (.iload_n 2, 1) := by decide +kernel
theorem dX5_walk_3 : decode cX5_walk 3 = .ok (.invokestatic 101, 3) := by decide +kernel
theorem dX5_walk_6 : decode cX5_walk 6 = .ok (.ifCond .eq 16, 3) := by decide +kernel
theorem dX5_walk_9 : decode cX5_walk 9 = .ok (.iload_n 3, 1) := by decide +kernel
theorem dX5_walk_10 : decode cX5_walk 10 = .ok (.iload 4, 2) := by decide +kernel
theorem dX5_walk_12 : decode cX5_walk 12 = .ok (.invokestatic 101, 3) := by decide +kernel
theorem dX5_walk_15 : decode cX5_walk 15 = .ok (.ifCond .eq 7, 3) := by decide +kernel
theorem dX5_walk_18 : decode cX5_walk 18 = .ok (.iconst 1, 1) := by decide +kernel
theorem dX5_walk_19 : decode cX5_walk 19 = .ok (.goto 4, 3) := by decide +kernel
theorem dX5_walk_22 : decode cX5_walk 22 = .ok (.iconst 0, 1) := by decide +kernel
theorem dX5_walk_23 : decode cX5_walk 23 = .ok (.iconst 1, 1) := by decide +kernel
theorem dX5_walk_24 : decode cX5_walk 24 = .ok (.iconst 1, 1) := by decide +kernel
theorem dX5_walk_25 : decode cX5_walk 25 = .ok (.invokevirtual 104, 3) := by decide +kernel
theorem dX5_walk_28 : decode cX5_walk 28 = .ok (.ifCond .ne 5, 3) := by decide +kernel
theorem dX5_walk_31 : decode cX5_walk 31 = .ok (.iconst 0, 1) := by decide +kernel
theorem dX5_walk_32 : decode cX5_walk 32 = .ok (.ireturn, 1) := by decide +kernel
theorem dX5_walk_33 : decode cX5_walk 33 = .ok (.aload_n 0, 1) := by decide +kernel
theorem dX5_walk_34 : decode cX5_walk 34 = .ok (.bipush 12, 2) := by decide +kernel
theorem dX5_walk_36 : decode cX5_walk 36 = .ok (.iload_n 1, 1) := by decide +kernel
theorem dX5_walk_37 : decode cX5_walk 37 = .ok (.imul, 1) := by decide +kernel
theorem dX5_walk_38 : decode cX5_walk 38 = .ok (.iload_n 2, 1) := by decide +kernel
theorem dX5_walk_39 : decode cX5_walk 39 = .ok (.iadd, 1) := by decide +kernel
theorem dX5_walk_40 : decode cX5_walk 40 = .ok (.invokevirtual 151, 3) := by decide +kernel
theorem dX5_walk_43 : decode cX5_walk 43 = .ok (.aload_n 0, 1) := by decide +kernel
theorem dX5_walk_44 : decode cX5_walk 44 = .ok (.getfield 47, 3) := by decide +kernel
theorem dX5_walk_47 : decode cX5_walk 47 = .ok (.bipush 12, 2) := by decide +kernel
theorem dX5_walk_49 : decode cX5_walk 49 = .ok (.iload_n 3, 1) := by decide +kernel
theorem dX5_walk_50 : decode cX5_walk 50 = .ok (.imul, 1) := by decide +kernel
theorem dX5_walk_51 : decode cX5_walk 51 = .ok (.iload 4, 2) := by decide +kernel
theorem dX5_walk_53 : decode cX5_walk 53 = .ok (.iadd, 1) := by decide +kernel
theorem dX5_walk_54 : decode cX5_walk 54 = .ok (.iaload, 1) := by decide +kernel
theorem dX5_walk_55 : decode cX5_walk 55 = .ok (.istore 5, 2) := by decide +kernel
theorem dX5_walk_57 : decode cX5_walk 57 = .ok (.iload 5, 2) := by decide +kernel
theorem dX5_walk_59 : decode cX5_walk 59 = .ok (.ldc 147, 2) := by decide +kernel
theorem dX5_walk_61 : decode cX5_walk 61 = .ok (.if_icmp .ne 7, 3) := by decide +kernel
theorem dX5_walk_64 : decode cX5_walk 64 = .ok (.iconst (-1), 1) := by decide +kernel
theorem dX5_walk_65 : decode cX5_walk 65 = .ok (.goto 5, 3) := by decide +kernel
theorem dX5_walk_68 : decode cX5_walk 68 = .ok (.iload 5, 2) := by decide +kernel
theorem dX5_walk_70 : decode cX5_walk 70 = .ok (.ireturn, 1) := by decide +kernel
set_option maxRecDepth 20000 in
theorem ggX5_walkByRounds_X5_walk : GoodIn wsX5_walkByRounds wsX5_walk := goodIn_r _ [5, 6, 7, 8, 9, 4, 10, 11, 12, 13, 14, 15, 16, 17, 18, 19, 20, 21, 22, 23, 24, 25, 26, 27, 28, 29, 30, 31, 32, 33, 34, 35, 36, 37, 38, 39, 40, 41, 42, 43, 44, 45, 46, 47, 48, 49, 50, 51, 52, 53, 54, 55, 56, 57] (by decide +kernel) (by decide +kernel)
set_option maxRecDepth 20000 in
theorem gX5_walkByRounds_X5_walk : GoodIn wsX5_walkByRounds (wsV RX5 154 RX5 yX5_walk wsX5_walk) := goodIn_app (goodIn_of _ (by decide +kernel)) ggX5_walkByRounds_X5_walk
theorem dX5_walkByRounds_0 : decode cX5_walkByRounds 0 = .ok (.aload_n 0, 1) := by decide +kernel
theorem dX5_walkByRounds_1 : decode cX5_walkByRounds 1 = .ok (.iload_n 1, 1) := by decide +kernel
theorem dX5_walkByRounds_2 : decode cX5_walkByRounds 2 = .ok (.iload_n 2, 1) := by decide +kernel
theorem dX5_walkByRounds_3 : decode cX5_walkByRounds 3 = .ok (.iload_n 3, 1) := by decide +kernel
theorem dX5_walkByRounds_4 : decode cX5_walkByRounds 4 = .ok (.iload 4, 2) := by decide +kernel
theorem dX5_walkByRounds_6 : decode cX5_walkByRounds 6 = .ok (.invokevirtual 154, 3) := by decide +kernel
theorem dX5_walkByRounds_9 : decode cX5_walkByRounds 9 = .ok (.ireturn, 1) := by decide +kernel
set_option maxRecDepth 20000 in
theorem ggX5_reachable_X5_isSquare : GoodIn wsX5_reachable wsX5_isSquare := goodIn_r _ [6, 7, 8, 5, 9] (by decide +kernel) (by decide +kernel)
set_option maxRecDepth 20000 in
theorem gX5_reachable_X5_isSquare : GoodIn wsX5_reachable (va_wsS RX5 101 yX5_isSquare wsX5_isSquare) := goodIn_app (goodIn_of _ (by decide +kernel)) ggX5_reachable_X5_isSquare
set_option maxRecDepth 20000 in
theorem ggX5_reachable_X5_goes : GoodIn wsX5_reachable wsX5_goes := goodIn_r _ [13, 14, 37, 38, 39, 40, 41, 42, 43, 44, 45, 46, 47, 48, 49, 50, 51, 52, 53] (by decide +kernel) (by decide +kernel)
set_option maxRecDepth 20000 in
theorem gX5_reachable_X5_goes : GoodIn wsX5_reachable (wsV RX5 104 RX5 yX5_goes wsX5_goes) := goodIn_app (goodIn_of _ (by decide +kernel)) ggX5_reachable_X5_goes
set_option maxRecDepth 20000 in
theorem ggX5_reachable_X5_walks : GoodIn wsX5_reachable wsX5_walks := goodIn_r _ [18, 1, 2, 19, 20, 21, 22, 23, 24, 25, 5, 26, 27, 28, 29, 30, 31, 32, 33, 34, 35, 36, 37, 38, 39, 40, 41, 42, 43, 44, 45, 46, 47, 48, 49, 50, 51, 52, 53] (by decide +kernel) (by decide +kernel)
set_option maxRecDepth 20000 in
theorem gX5_reachable_X5_walks : GoodIn wsX5_reachable (wsV RX5 151 RX5 yX5_walks wsX5_walks) := goodIn_app (goodIn_of _ (by decide +kernel)) ggX5_reachable_X5_walks
theorem dX5_reachable_0 : decode cX5_reachable 0 = .ok (.iconst 0, 1) := by decide +kernel
theorem dX5_reachable_1 : decode cX5_reachable 1 = .ok (.istore_n 3, 1) := by decide +kernel
theorem dX5_reachable_2 : decode cX5_reachable 2 = .ok (.aload_n 0, 1) := by decide +kernel
theorem dX5_reachable_3 : decode cX5_reachable 3 = .ok (.iload_n 1, 1) := by decide +kernel
theorem dX5_reachable_4 : decode cX5_reachable 4 = .ok (.iload_n 2, 1) := by decide +kernel
theorem dX5_reachable_5 : decode cX5_reachable 5 = .ok (.invokestatic 101, 3) := by decide +kernel
theorem dX5_reachable_8 : decode cX5_reachable 8 = .ok (.iconst 1, 1) := by decide +kernel
theorem dX5_reachable_9 : decode cX5_reachable 9 = .ok (.iconst 1, 1) := by decide +kernel
theorem dX5_reachable_10 : decode cX5_reachable 10 = .ok (.invokevirtual 104, 3) := by decide +kernel
theorem dX5_reachable_13 : decode cX5_reachable 13 = .ok (.ifCond .eq 50, 3) := by decide +kernel
theorem dX5_reachable_16 : decode cX5_reachable 16 = .ok (.aload_n 0, 1) := by decide +kernel
theorem dX5_reachable_17 : decode cX5_reachable 17 = .ok (.bipush 12, 2) := by decide +kernel
theorem dX5_reachable_19 : decode cX5_reachable 19 = .ok (.iload_n 1, 1) := by decide +kernel
theorem dX5_reachable_20 : decode cX5_reachable 20 = .ok (.imul, 1) := by decide +kernel
theorem dX5_reachable_21 : decode cX5_reachable 21 = .ok (.iload_n 2, 1) := by decide +kernel
theorem dX5_reachable_22 : decode cX5_reachable 22 = .ok (.iadd, 1) := by decide +kernel
theorem dX5_reachable_23 : decode cX5_reachable 23 = .ok (.invokevirtual 151, 3) := by decide +kernel
theorem dX5_reachable_26 : decode cX5_reachable 26 = .ok (.iconst 0, 1) := by decide +kernel
theorem dX5_reachable_27 : decode cX5_reachable 27 = .ok (.istore 4, 2) := by decide +kernel
theorem dX5_reachable_29 : decode cX5_reachable 29 = .ok (.iload 4, 2) := by decide +kernel
theorem dX5_reachable_31 : decode cX5_reachable 31 = .ok (.sipush 144, 3) := by decide +kernel
theorem dX5_reachable_34 : decode cX5_reachable 34 = .ok (.if_icmp .ge 29, 3) := by decide +kernel
theorem dX5_reachable_37 : decode cX5_reachable 37 = .ok (.iload_n 3, 1) := by decide +kernel
theorem dX5_reachable_38 : decode cX5_reachable 38 = .ok (.aload_n 0, 1) := by decide +kernel
theorem dX5_reachable_39 : decode cX5_reachable 39 = .ok (.getfield 47, 3) := by decide +kernel
theorem dX5_reachable_42 : decode cX5_reachable 42 = .ok (.iload 4, 2) := by decide +kernel
theorem dX5_reachable_44 : decode cX5_reachable 44 = .ok (.iaload, 1) := by decide +kernel
theorem dX5_reachable_45 : decode cX5_reachable 45 = .ok (.ldc 147, 2) := by decide +kernel
theorem dX5_reachable_47 : decode cX5_reachable 47 = .ok (.if_icmp .ge 7, 3) := by decide +kernel
theorem dX5_reachable_50 : decode cX5_reachable 50 = .ok (.iconst 1, 1) := by decide +kernel
theorem dX5_reachable_51 : decode cX5_reachable 51 = .ok (.goto 4, 3) := by decide +kernel
theorem dX5_reachable_54 : decode cX5_reachable 54 = .ok (.iconst 0, 1) := by decide +kernel
theorem dX5_reachable_55 : decode cX5_reachable 55 = .ok (.iadd, 1) := by decide +kernel
theorem dX5_reachable_56 : decode cX5_reachable 56 = .ok (.istore_n 3, 1) := by decide +kernel
theorem dX5_reachable_57 : decode cX5_reachable 57 = .ok (.iinc 4 1, 3) := by decide +kernel
theorem dX5_reachable_60 : decode cX5_reachable 60 = .ok (.goto (-31), 3) := by decide +kernel
theorem dX5_reachable_63 : decode cX5_reachable 63 = .ok (.iload_n 3, 1) := by decide +kernel
theorem dX5_reachable_64 : decode cX5_reachable 64 = .ok (.ireturn, 1) := by decide +kernel
