theorem dX12_init_0 : decode cX12_init 0 = .ok (.aload_n 0, 1) := by decide +kernel
theorem dX12_init_1 : decode cX12_init 1 = .ok (.invokespecial 1, 3) := by decide +kernel
theorem dX12_init_4 : decode cX12_init 4 = .ok (.aload_n 0, 1) := by decide +kernel
theorem dX12_init_5 : decode cX12_init 5 = .ok (.bipush 7, 2) := by decide +kernel
theorem dX12_init_7 : decode cX12_init 7 = .ok (.newarray .int, 2) := by decide +kernel
theorem dX12_init_9 : decode cX12_init 9 = .ok (.putfield 7, 3) := by decide +kernel
theorem dX12_init_12 : decode cX12_init 12 = .ok (.aload_n 0, 1) := by decide +kernel
theorem dX12_init_13 : decode cX12_init 13 = .ok (.sipush 5516, 3) := by decide +kernel
theorem dX12_init_16 : decode cX12_init 16 = .ok (.newarray .int, 2) := by decide +kernel
theorem dX12_init_18 : decode cX12_init 18 = .ok (.putfield 13, 3) := by decide +kernel
theorem dX12_init_21 : decode cX12_init 21 = .ok (.aload_n 0, 1) := by decide +kernel
theorem dX12_init_22 : decode cX12_init 22 = .ok (.sipush 11032, 3) := by decide +kernel
theorem dX12_init_25 : decode cX12_init 25 = .ok (.newarray .int, 2) := by decide +kernel
theorem dX12_init_27 : decode cX12_init 27 = .ok (.putfield 16, 3) := by decide +kernel
theorem dX12_init_30 : decode cX12_init 30 = .ok (.aload_n 0, 1) := by decide +kernel
theorem dX12_init_31 : decode cX12_init 31 = .ok (.iconst 2, 1) := by decide +kernel
theorem dX12_init_32 : decode cX12_init 32 = .ok (.newarray .boolean, 2) := by decide +kernel
theorem dX12_init_34 : decode cX12_init 34 = .ok (.putfield 19, 3) := by decide +kernel
theorem dX12_init_37 : decode cX12_init 37 = .ok (.aload_n 0, 1) := by decide +kernel
theorem dX12_init_38 : decode cX12_init 38 = .ok (.sipush 1350, 3) := by decide +kernel
theorem dX12_init_41 : decode cX12_init 41 = .ok (.newarray .int, 2) := by decide +kernel
theorem dX12_init_43 : decode cX12_init 43 = .ok (.putfield 23, 3) := by decide +kernel
theorem dX12_init_46 : decode cX12_init 46 = .ok (.aload_n 0, 1) := by decide +kernel
theorem dX12_init_47 : decode cX12_init 47 = .ok (.bipush 16, 2) := by decide +kernel
theorem dX12_init_49 : decode cX12_init 49 = .ok (.newarray .int, 2) := by decide +kernel
theorem dX12_init_51 : decode cX12_init 51 = .ok (.putfield 26, 3) := by decide +kernel
theorem dX12_init_54 : decode cX12_init 54 = .ok (.aload_n 0, 1) := by decide +kernel
theorem dX12_init_55 : decode cX12_init 55 = .ok (.sipush 1200, 3) := by decide +kernel
theorem dX12_init_58 : decode cX12_init 58 = .ok (.newarray .int, 2) := by decide +kernel
theorem dX12_init_60 : decode cX12_init 60 = .ok (.putfield 29, 3) := by decide +kernel
theorem dX12_init_63 : decode cX12_init 63 = .ok (.aload_n 0, 1) := by decide +kernel
theorem dX12_init_64 : decode cX12_init 64 = .ok (.bipush 16, 2) := by decide +kernel
theorem dX12_init_66 : decode cX12_init 66 = .ok (.newarray .int, 2) := by decide +kernel
theorem dX12_init_68 : decode cX12_init 68 = .ok (.putfield 32, 3) := by decide +kernel
theorem dX12_init_71 : decode cX12_init 71 = .ok (.aload_n 0, 1) := by decide +kernel
theorem dX12_init_72 : decode cX12_init 72 = .ok (.sipush 400, 3) := by decide +kernel
theorem dX12_init_75 : decode cX12_init 75 = .ok (.newarray .int, 2) := by decide +kernel
theorem dX12_init_77 : decode cX12_init 77 = .ok (.putfield 35, 3) := by decide +kernel
theorem dX12_init_80 : decode cX12_init 80 = .ok (.aload_n 0, 1) := by decide +kernel
theorem dX12_init_81 : decode cX12_init 81 = .ok (.iconst (-1), 1) := by decide +kernel
theorem dX12_init_82 : decode cX12_init 82 = .ok (.putfield 38, 3) := by decide +kernel
theorem dX12_init_85 : decode cX12_init 85 = .ok (.aload_n 0, 1) := by decide +kernel
theorem dX12_init_86 : decode cX12_init 86 = .ok (.bipush 96, 2) := by decide +kernel
theorem dX12_init_88 : decode cX12_init 88 = .ok (.newarray .int, 2) := by decide +kernel
theorem dX12_init_90 : decode cX12_init 90 = .ok (.putfield 42, 3) := by decide +kernel
theorem dX12_init_93 : decode cX12_init 93 = .ok (.aload_n 0, 1) := by decide +kernel
theorem dX12_init_94 : decode cX12_init 94 = .ok (.sipush 400, 3) := by decide +kernel
theorem dX12_init_97 : decode cX12_init 97 = .ok (.newarray .int, 2) := by decide +kernel
theorem dX12_init_99 : decode cX12_init 99 = .ok (.putfield 45, 3) := by decide +kernel
theorem dX12_init_102 : decode cX12_init 102 = .ok (.aload_n 0, 1) := by decide +kernel
theorem dX12_init_103 : decode cX12_init 103 = .ok (.sipush 400, 3) := by decide +kernel
theorem dX12_init_106 : decode cX12_init 106 = .ok (.newarray .int, 2) := by decide +kernel
theorem dX12_init_108 : decode cX12_init 108 = .ok (.putfield 48, 3) := by decide +kernel
theorem dX12_init_111 : decode cX12_init 111 = .ok (.aload_n 0, 1) := by decide +kernel
theorem dX12_init_112 : decode cX12_init 112 = .ok (.sipush 400, 3) := by decide +kernel
theorem dX12_init_115 : decode cX12_init 115 = .ok (.newarray .int, 2) := by decide +kernel
theorem dX12_init_117 : decode cX12_init 117 = .ok (.putfield 51, 3) := by decide +kernel
theorem dX12_init_120 : decode cX12_init 120 = .ok (.aload_n 0, 1) := by decide +kernel
theorem dX12_init_121 : decode cX12_init 121 = .ok (.sipush 400, 3) := by decide +kernel
theorem dX12_init_124 : decode cX12_init 124 = .ok (.newarray .int, 2) := by decide +kernel
theorem dX12_init_126 : decode cX12_init 126 = .ok (.putfield 54, 3) := by decide +kernel
theorem dX12_init_129 : decode cX12_init 129 = .ok (.aload_n 0, 1) := by decide +kernel
theorem dX12_init_130 : decode cX12_init 130 = .ok (.bipush 9, 2) := by decide +kernel
theorem dX12_init_132 : decode cX12_init 132 = .ok (.newarray .long, 2) := by decide +kernel
theorem dX12_init_134 : decode cX12_init 134 = .ok (.dup, 1) := by decide +kernel
theorem dX12_init_135 : decode cX12_init 135 = .ok (.iconst 0, 1) := by decide +kernel
theorem dX12_init_136 : decode cX12_init 136 = .ok (.ldc2_w 57, 3) := by decide +kernel
theorem dX12_init_139 : decode cX12_init 139 = .ok (.lastore, 1) := by decide +kernel
theorem dX12_init_140 : decode cX12_init 140 = .ok (.dup, 1) := by decide +kernel
theorem dX12_init_141 : decode cX12_init 141 = .ok (.iconst 1, 1) := by decide +kernel
theorem dX12_init_142 : decode cX12_init 142 = .ok (.ldc2_w 59, 3) := by decide +kernel
theorem dX12_init_145 : decode cX12_init 145 = .ok (.lastore, 1) := by decide +kernel
theorem dX12_init_146 : decode cX12_init 146 = .ok (.dup, 1) := by decide +kernel
theorem dX12_init_147 : decode cX12_init 147 = .ok (.iconst 2, 1) := by decide +kernel
theorem dX12_init_148 : decode cX12_init 148 = .ok (.ldc2_w 61, 3) := by decide +kernel
theorem dX12_init_151 : decode cX12_init 151 = .ok (.lastore, 1) := by decide +kernel
theorem dX12_init_152 : decode cX12_init 152 = .ok (.dup, 1) := by decide +kernel
theorem dX12_init_153 : decode cX12_init 153 = .ok (.iconst 3, 1) := by decide +kernel
theorem dX12_init_154 : decode cX12_init 154 = .ok (.ldc2_w 63, 3) := by decide +kernel
theorem dX12_init_157 : decode cX12_init 157 = .ok (.lastore, 1) := by decide +kernel
theorem dX12_init_158 : decode cX12_init 158 = .ok (.dup, 1) := by decide +kernel
theorem dX12_init_159 : decode cX12_init 159 = .ok (.iconst 4, 1) := by decide +kernel
theorem dX12_init_160 : decode cX12_init 160 = .ok (.ldc2_w 65, 3) := by decide +kernel
theorem dX12_init_163 : decode cX12_init 163 = .ok (.lastore, 1) := by decide +kernel
theorem dX12_init_164 : decode cX12_init 164 = .ok (.dup, 1) := by decide +kernel
theorem dX12_init_165 : decode cX12_init 165 = .ok (.iconst 5, 1) := by decide +kernel
theorem dX12_init_166 : decode cX12_init 166 = .ok (.ldc2_w 67, 3) := by decide +kernel
theorem dX12_init_169 : decode cX12_init 169 = .ok (.lastore, 1) := by decide +kernel
theorem dX12_init_170 : decode cX12_init 170 = .ok (.dup, 1) := by decide +kernel
theorem dX12_init_171 : decode cX12_init 171 = .ok (.bipush 6, 2) := by decide +kernel
theorem dX12_init_173 : decode cX12_init 173 = .ok (.ldc2_w 69, 3) := by decide +kernel
theorem dX12_init_176 : decode cX12_init 176 = .ok (.lastore, 1) := by decide +kernel
theorem dX12_init_177 : decode cX12_init 177 = .ok (.dup, 1) := by decide +kernel
theorem dX12_init_178 : decode cX12_init 178 = .ok (.bipush 7, 2) := by decide +kernel
theorem dX12_init_180 : decode cX12_init 180 = .ok (.ldc2_w 71, 3) := by decide +kernel
theorem dX12_init_183 : decode cX12_init 183 = .ok (.lastore, 1) := by decide +kernel
theorem dX12_init_184 : decode cX12_init 184 = .ok (.dup, 1) := by decide +kernel
theorem dX12_init_185 : decode cX12_init 185 = .ok (.bipush 8, 2) := by decide +kernel
theorem dX12_init_187 : decode cX12_init 187 = .ok (.ldc2_w 73, 3) := by decide +kernel
theorem dX12_init_190 : decode cX12_init 190 = .ok (.lastore, 1) := by decide +kernel
theorem dX12_init_191 : decode cX12_init 191 = .ok (.putfield 75, 3) := by decide +kernel
theorem dX12_init_194 : decode cX12_init 194 = .ok (.aload_n 0, 1) := by decide +kernel
theorem dX12_init_195 : decode cX12_init 195 = .ok (.bipush 6, 2) := by decide +kernel
theorem dX12_init_197 : decode cX12_init 197 = .ok (.newarray .long, 2) := by decide +kernel
theorem dX12_init_199 : decode cX12_init 199 = .ok (.dup, 1) := by decide +kernel
theorem dX12_init_200 : decode cX12_init 200 = .ok (.iconst 0, 1) := by decide +kernel
theorem dX12_init_201 : decode cX12_init 201 = .ok (.ldc2_w 71, 3) := by decide +kernel
theorem dX12_init_204 : decode cX12_init 204 = .ok (.lastore, 1) := by decide +kernel
theorem dX12_init_205 : decode cX12_init 205 = .ok (.dup, 1) := by decide +kernel
theorem dX12_init_206 : decode cX12_init 206 = .ok (.iconst 1, 1) := by decide +kernel
theorem dX12_init_207 : decode cX12_init 207 = .ok (.ldc2_w 79, 3) := by decide +kernel
theorem dX12_init_210 : decode cX12_init 210 = .ok (.lastore, 1) := by decide +kernel
theorem dX12_init_211 : decode cX12_init 211 = .ok (.dup, 1) := by decide +kernel
theorem dX12_init_212 : decode cX12_init 212 = .ok (.iconst 2, 1) := by decide +kernel
theorem dX12_init_213 : decode cX12_init 213 = .ok (.ldc2_w 81, 3) := by decide +kernel
theorem dX12_init_216 : decode cX12_init 216 = .ok (.lastore, 1) := by decide +kernel
theorem dX12_init_217 : decode cX12_init 217 = .ok (.dup, 1) := by decide +kernel
theorem dX12_init_218 : decode cX12_init 218 = .ok (.iconst 3, 1) := by decide +kernel
theorem dX12_init_219 : decode cX12_init 219 = .ok (.ldc2_w 83, 3) := by decide +kernel
theorem dX12_init_222 : decode cX12_init 222 = .ok (.lastore, 1) := by decide +kernel
theorem dX12_init_223 : decode cX12_init 223 = .ok (.dup, 1) := by decide +kernel
theorem dX12_init_224 : decode cX12_init 224 = .ok (.iconst 4, 1) := by decide +kernel
theorem dX12_init_225 : decode cX12_init 225 = .ok (.ldc2_w 85, 3) := by decide +kernel
theorem dX12_init_228 : decode cX12_init 228 = .ok (.lastore, 1) := by decide +kernel
theorem dX12_init_229 : decode cX12_init 229 = .ok (.dup, 1) := by decide +kernel
theorem dX12_init_230 : decode cX12_init 230 = .ok (.iconst 5, 1) := by decide +kernel
theorem dX12_init_231 : decode cX12_init 231 = .ok (.ldc2_w 61, 3) := by decide +kernel
theorem dX12_init_234 : decode cX12_init 234 = .ok (.lastore, 1) := by decide +kernel
theorem dX12_init_235 : decode cX12_init 235 = .ok (.putfield 87, 3) := by decide +kernel
theorem dX12_init_238 : decode cX12_init 238 = .ok (.aload_n 0, 1) := by decide +kernel
theorem dX12_init_239 : decode cX12_init 239 = .ok (.iconst 4, 1) := by decide +kernel
theorem dX12_init_240 : decode cX12_init 240 = .ok (.newarray .long, 2) := by decide +kernel
theorem dX12_init_242 : decode cX12_init 242 = .ok (.dup, 1) := by decide +kernel
theorem dX12_init_243 : decode cX12_init 243 = .ok (.iconst 0, 1) := by decide +kernel
theorem dX12_init_244 : decode cX12_init 244 = .ok (.ldc2_w 90, 3) := by decide +kernel
theorem dX12_init_247 : decode cX12_init 247 = .ok (.lastore, 1) := by decide +kernel
theorem dX12_init_248 : decode cX12_init 248 = .ok (.dup, 1) := by decide +kernel
theorem dX12_init_249 : decode cX12_init 249 = .ok (.iconst 1, 1) := by decide +kernel
theorem dX12_init_250 : decode cX12_init 250 = .ok (.ldc2_w 92, 3) := by decide +kernel
theorem dX12_init_253 : decode cX12_init 253 = .ok (.lastore, 1) := by decide +kernel
theorem dX12_init_254 : decode cX12_init 254 = .ok (.dup, 1) := by decide +kernel
theorem dX12_init_255 : decode cX12_init 255 = .ok (.iconst 2, 1) := by decide +kernel
theorem dX12_init_256 : decode cX12_init 256 = .ok (.ldc2_w 94, 3) := by decide +kernel
theorem dX12_init_259 : decode cX12_init 259 = .ok (.lastore, 1) := by decide +kernel
theorem dX12_init_260 : decode cX12_init 260 = .ok (.dup, 1) := by decide +kernel
theorem dX12_init_261 : decode cX12_init 261 = .ok (.iconst 3, 1) := by decide +kernel
theorem dX12_init_262 : decode cX12_init 262 = .ok (.ldc2_w 96, 3) := by decide +kernel
theorem dX12_init_265 : decode cX12_init 265 = .ok (.lastore, 1) := by decide +kernel
theorem dX12_init_266 : decode cX12_init 266 = .ok (.putfield 98, 3) := by decide +kernel
theorem dX12_init_269 : decode cX12_init 269 = .ok (.aload_n 0, 1) := by decide +kernel
theorem dX12_init_270 : decode cX12_init 270 = .ok (.bipush 13, 2) := by decide +kernel
theorem dX12_init_272 : decode cX12_init 272 = .ok (.newarray .long, 2) := by decide +kernel
theorem dX12_init_274 : decode cX12_init 274 = .ok (.putfield 101, 3) := by decide +kernel
theorem dX12_init_277 : decode cX12_init 277 = .ok (.aload_n 0, 1) := by decide +kernel
theorem dX12_init_278 : decode cX12_init 278 = .ok (.bipush 13, 2) := by decide +kernel
theorem dX12_init_280 : decode cX12_init 280 = .ok (.newarray .long, 2) := by decide +kernel
theorem dX12_init_282 : decode cX12_init 282 = .ok (.putfield 104, 3) := by decide +kernel
theorem dX12_init_285 : decode cX12_init 285 = .ok (.aload_n 0, 1) := by decide +kernel
theorem dX12_init_286 : decode cX12_init 286 = .ok (.sipush 400, 3) := by decide +kernel
theorem dX12_init_289 : decode cX12_init 289 = .ok (.newarray .long, 2) := by decide +kernel
theorem dX12_init_291 : decode cX12_init 291 = .ok (.putfield 107, 3) := by decide +kernel
theorem dX12_init_294 : decode cX12_init 294 = .ok (.aload_n 0, 1) := by decide +kernel
theorem dX12_init_295 : decode cX12_init 295 = .ok (.bipush 6, 2) := by decide +kernel
theorem dX12_init_297 : decode cX12_init 297 = .ok (.newarray .int, 2) := by decide +kernel
theorem dX12_init_299 : decode cX12_init 299 = .ok (.putfield 110, 3) := by decide +kernel
theorem dX12_init_302 : decode cX12_init 302 = .ok (.aload_n 0, 1) := by decide +kernel
theorem dX12_init_303 : decode cX12_init 303 = .ok (.bipush 36, 2) := by decide +kernel
theorem dX12_init_305 : decode cX12_init 305 = .ok (.newarray .int, 2) := by decide +kernel
theorem dX12_init_307 : decode cX12_init 307 = .ok (.putfield 113, 3) := by decide +kernel
theorem dX12_init_310 : decode cX12_init 310 = .ok (.aload_n 0, 1) := by decide +kernel
theorem dX12_init_311 : decode cX12_init 311 = .ok (.bipush 36, 2) := by decide +kernel
theorem dX12_init_313 : decode cX12_init 313 = .ok (.newarray .int, 2) := by decide +kernel
theorem dX12_init_315 : decode cX12_init 315 = .ok (.putfield 116, 3) := by decide +kernel
theorem dX12_init_318 : decode cX12_init 318 = .ok (.aload_n 0, 1) := by decide +kernel
theorem dX12_init_319 : decode cX12_init 319 = .ok (.bipush 6, 2) := by decide +kernel
theorem dX12_init_321 : decode cX12_init 321 = .ok (.newarray .int, 2) := by decide +kernel
theorem dX12_init_323 : decode cX12_init 323 = .ok (.putfield 119, 3) := by decide +kernel
theorem dX12_init_326 : decode cX12_init 326 = .ok (.aload_n 0, 1) := by decide +kernel
theorem dX12_init_327 : decode cX12_init 327 = .ok (.bipush 36, 2) := by decide +kernel
theorem dX12_init_329 : decode cX12_init 329 = .ok (.newarray .boolean, 2) := by decide +kernel
theorem dX12_init_331 : decode cX12_init 331 = .ok (.putfield 122, 3) := by decide +kernel
theorem dX12_init_334 : decode cX12_init 334 = .ok (.aload_n 0, 1) := by decide +kernel
theorem dX12_init_335 : decode cX12_init 335 = .ok (.sipush 448, 3) := by decide +kernel
theorem dX12_init_338 : decode cX12_init 338 = .ok (.newarray .int, 2) := by decide +kernel
theorem dX12_init_340 : decode cX12_init 340 = .ok (.putfield 125, 3) := by decide +kernel
theorem dX12_init_343 : decode cX12_init 343 = .ok (.aload_n 0, 1) := by decide +kernel
theorem dX12_init_344 : decode cX12_init 344 = .ok (.sipush 2048, 3) := by decide +kernel
theorem dX12_init_347 : decode cX12_init 347 = .ok (.newarray .int, 2) := by decide +kernel
theorem dX12_init_349 : decode cX12_init 349 = .ok (.putfield 128, 3) := by decide +kernel
theorem dX12_init_352 : decode cX12_init 352 = .ok (.aload_n 0, 1) := by decide +kernel
theorem dX12_init_353 : decode cX12_init 353 = .ok (.bipush 8, 2) := by decide +kernel
theorem dX12_init_355 : decode cX12_init 355 = .ok (.newarray .int, 2) := by decide +kernel
theorem dX12_init_357 : decode cX12_init 357 = .ok (.putfield 131, 3) := by decide +kernel
theorem dX12_init_360 : decode cX12_init 360 = .ok (.aload_n 0, 1) := by decide +kernel
theorem dX12_init_361 : decode cX12_init 361 = .ok (.iconst 3, 1) := by decide +kernel
theorem dX12_init_362 : decode cX12_init 362 = .ok (.newarray .int, 2) := by decide +kernel
theorem dX12_init_364 : decode cX12_init 364 = .ok (.putfield 134, 3) := by decide +kernel
theorem dX12_init_367 : decode cX12_init 367 = .ok (.aload_n 0, 1) := by decide +kernel
theorem dX12_init_368 : decode cX12_init 368 = .ok (.bipush 6, 2) := by decide +kernel
theorem dX12_init_370 : decode cX12_init 370 = .ok (.newarray .int, 2) := by decide +kernel
theorem dX12_init_372 : decode cX12_init 372 = .ok (.putfield 137, 3) := by decide +kernel
theorem dX12_init_375 : decode cX12_init 375 = .ok (.aload_n 0, 1) := by decide +kernel
theorem dX12_init_376 : decode cX12_init 376 = .ok (.bipush 21, 2) := by decide +kernel
theorem dX12_init_378 : decode cX12_init 378 = .ok (.newarray .long, 2) := by decide +kernel
theorem dX12_init_380 : decode cX12_init 380 = .ok (.putfield 140, 3) := by decide +kernel
theorem dX12_init_383 : decode cX12_init 383 = .ok (.aload_n 0, 1) := by decide +kernel
theorem dX12_init_384 : decode cX12_init 384 = .ok (.iconst 4, 1) := by decide +kernel
theorem dX12_init_385 : decode cX12_init 385 = .ok (.newarray .long, 2) := by decide +kernel
theorem dX12_init_387 : decode cX12_init 387 = .ok (.dup, 1) := by decide +kernel
theorem dX12_init_388 : decode cX12_init 388 = .ok (.iconst 0, 1) := by decide +kernel
theorem dX12_init_389 : decode cX12_init 389 = .ok (.ldc2_w 143, 3) := by decide +kernel
theorem dX12_init_392 : decode cX12_init 392 = .ok (.lastore, 1) := by decide +kernel
theorem dX12_init_393 : decode cX12_init 393 = .ok (.dup, 1) := by decide +kernel
theorem dX12_init_394 : decode cX12_init 394 = .ok (.iconst 1, 1) := by decide +kernel
theorem dX12_init_395 : decode cX12_init 395 = .ok (.ldc2_w 145, 3) := by decide +kernel
theorem dX12_init_398 : decode cX12_init 398 = .ok (.lastore, 1) := by decide +kernel
theorem dX12_init_399 : decode cX12_init 399 = .ok (.dup, 1) := by decide +kernel
theorem dX12_init_400 : decode cX12_init 400 = .ok (.iconst 2, 1) := by decide +kernel
theorem dX12_init_401 : decode cX12_init 401 = .ok (.ldc2_w 147, 3) := by decide +kernel
theorem dX12_init_404 : decode cX12_init 404 = .ok (.lastore, 1) := by decide +kernel
theorem dX12_init_405 : decode cX12_init 405 = .ok (.dup, 1) := by decide +kernel
theorem dX12_init_406 : decode cX12_init 406 = .ok (.iconst 3, 1) := by decide +kernel
theorem dX12_init_407 : decode cX12_init 407 = .ok (.ldc2_w 149, 3) := by decide +kernel
theorem dX12_init_410 : decode cX12_init 410 = .ok (.lastore, 1) := by decide +kernel
theorem dX12_init_411 : decode cX12_init 411 = .ok (.putfield 151, 3) := by decide +kernel
theorem dX12_init_414 : decode cX12_init 414 = .ok (.aload_n 0, 1) := by decide +kernel
theorem dX12_init_415 : decode cX12_init 415 = .ok (.iconst 3, 1) := by decide +kernel
theorem dX12_init_416 : decode cX12_init 416 = .ok (.newarray .long, 2) := by decide +kernel
theorem dX12_init_418 : decode cX12_init 418 = .ok (.dup, 1) := by decide +kernel
theorem dX12_init_419 : decode cX12_init 419 = .ok (.iconst 0, 1) := by decide +kernel
theorem dX12_init_420 : decode cX12_init 420 = .ok (.ldc2_w 154, 3) := by decide +kernel
theorem dX12_init_423 : decode cX12_init 423 = .ok (.lastore, 1) := by decide +kernel
theorem dX12_init_424 : decode cX12_init 424 = .ok (.dup, 1) := by decide +kernel
theorem dX12_init_425 : decode cX12_init 425 = .ok (.iconst 1, 1) := by decide +kernel
theorem dX12_init_426 : decode cX12_init 426 = .ok (.ldc2_w 156, 3) := by decide +kernel
theorem dX12_init_429 : decode cX12_init 429 = .ok (.lastore, 1) := by decide +kernel
theorem dX12_init_430 : decode cX12_init 430 = .ok (.dup, 1) := by decide +kernel
theorem dX12_init_431 : decode cX12_init 431 = .ok (.iconst 2, 1) := by decide +kernel
theorem dX12_init_432 : decode cX12_init 432 = .ok (.ldc2_w 158, 3) := by decide +kernel
theorem dX12_init_435 : decode cX12_init 435 = .ok (.lastore, 1) := by decide +kernel
theorem dX12_init_436 : decode cX12_init 436 = .ok (.putfield 160, 3) := by decide +kernel
theorem dX12_init_439 : decode cX12_init 439 = .ok (.aload_n 0, 1) := by decide +kernel
theorem dX12_init_440 : decode cX12_init 440 = .ok (.bipush 120, 2) := by decide +kernel
theorem dX12_init_442 : decode cX12_init 442 = .ok (.newarray .int, 2) := by decide +kernel
theorem dX12_init_444 : decode cX12_init 444 = .ok (.putfield 163, 3) := by decide +kernel
theorem dX12_init_447 : decode cX12_init 447 = .ok (.aload_n 0, 1) := by decide +kernel
theorem dX12_init_448 : decode cX12_init 448 = .ok (.iconst (-1), 1) := by decide +kernel
theorem dX12_init_449 : decode cX12_init 449 = .ok (.putfield 166, 3) := by decide +kernel
theorem dX12_init_452 : decode cX12_init 452 = .ok (.aload_n 0, 1) := by decide +kernel
theorem dX12_init_453 : decode cX12_init 453 = .ok (.bipush 18, 2) := by decide +kernel
theorem dX12_init_455 : decode cX12_init 455 = .ok (.newarray .int, 2) := by decide +kernel
theorem dX12_init_457 : decode cX12_init 457 = .ok (.putfield 169, 3) := by decide +kernel
theorem dX12_init_460 : decode cX12_init 460 = .ok (.aload_n 0, 1) := by decide +kernel
theorem dX12_init_461 : decode cX12_init 461 = .ok (.iconst (-1), 1) := by decide +kernel
theorem dX12_init_462 : decode cX12_init 462 = .ok (.putfield 172, 3) := by decide +kernel
theorem dX12_init_465 : decode cX12_init 465 = .ok (.aload_n 0, 1) := by decide +kernel
theorem dX12_init_466 : decode cX12_init 466 = .ok (.getfield 13, 3) := by decide +kernel
theorem dX12_init_469 : decode cX12_init 469 = .ok (.iconst 4, 1) := by decide +kernel
theorem dX12_init_470 : decode cX12_init 470 = .ok (.iconst (-1), 1) := by decide +kernel
theorem dX12_init_471 : decode cX12_init 471 = .ok (.iastore, 1) := by decide +kernel
theorem dX12_init_472 : decode cX12_init 472 = .ok (.aload_n 0, 1) := by decide +kernel
theorem dX12_init_473 : decode cX12_init 473 = .ok (.getfield 13, 3) := by decide +kernel
theorem dX12_init_476 : decode cX12_init 476 = .ok (.bipush 6, 2) := by decide +kernel
theorem dX12_init_478 : decode cX12_init 478 = .ok (.iconst 2, 1) := by decide +kernel
theorem dX12_init_479 : decode cX12_init 479 = .ok (.iastore, 1) := by decide +kernel
theorem dX12_init_480 : decode cX12_init 480 = .ok (.return_, 1) := by decide +kernel
theorem dX12_in_0 : decode cX12_in 0 = .ok (.lload_n 0, 1) := by decide +kernel
theorem dX12_in_1 : decode cX12_in 1 = .ok (.lload_n 2, 1) := by decide +kernel
theorem dX12_in_2 : decode cX12_in 2 = .ok (.lcmp, 1) := by decide +kernel
theorem dX12_in_3 : decode cX12_in 3 = .ok (.ifCond .lt 14, 3) := by decide +kernel
theorem dX12_in_6 : decode cX12_in 6 = .ok (.lload_n 0, 1) := by decide +kernel
theorem dX12_in_7 : decode cX12_in 7 = .ok (.lload 4, 2) := by decide +kernel
theorem dX12_in_9 : decode cX12_in 9 = .ok (.lcmp, 1) := by decide +kernel
theorem dX12_in_10 : decode cX12_in 10 = .ok (.ifCond .gt 7, 3) := by decide +kernel
theorem dX12_in_13 : decode cX12_in 13 = .ok (.iconst 1, 1) := by decide +kernel
theorem dX12_in_14 : decode cX12_in 14 = .ok (.goto 4, 3) := by decide +kernel
theorem dX12_in_17 : decode cX12_in 17 = .ok (.iconst 0, 1) := by decide +kernel
theorem dX12_in_18 : decode cX12_in 18 = .ok (.ireturn, 1) := by decide +kernel
theorem dX12_is_0 : decode cX12_is 0 = .ok (.iload_n 0, 1) := by decide +kernel
theorem dX12_is_1 : decode cX12_is 1 = .ok (.iload_n 1, 1) := by decide +kernel
theorem dX12_is_2 : decode cX12_is 2 = .ok (.ishr, 1) := by decide +kernel
theorem dX12_is_3 : decode cX12_is 3 = .ok (.iconst 1, 1) := by decide +kernel
theorem dX12_is_4 : decode cX12_is 4 = .ok (.iand, 1) := by decide +kernel
theorem dX12_is_5 : decode cX12_is 5 = .ok (.iconst 1, 1) := by decide +kernel
theorem dX12_is_6 : decode cX12_is 6 = .ok (.if_icmp .ne 7, 3) := by decide +kernel
theorem dX12_is_9 : decode cX12_is 9 = .ok (.iconst 1, 1) := by decide +kernel
theorem dX12_is_10 : decode cX12_is 10 = .ok (.goto 4, 3) := by decide +kernel
theorem dX12_is_13 : decode cX12_is 13 = .ok (.iconst 0, 1) := by decide +kernel
theorem dX12_is_14 : decode cX12_is 14 = .ok (.ireturn, 1) := by decide +kernel
theorem dX12_ones_0 : decode cX12_ones 0 = .ok (.iconst 0, 1) := by decide +kernel
theorem dX12_ones_1 : decode cX12_ones 1 = .ok (.istore_n 1, 1) := by decide +kernel
theorem dX12_ones_2 : decode cX12_ones 2 = .ok (.iconst 0, 1) := by decide +kernel
theorem dX12_ones_3 : decode cX12_ones 3 = .ok (.istore_n 2, 1) := by decide +kernel
theorem dX12_ones_4 : decode cX12_ones 4 = .ok (.iload_n 2, 1) := by decide +kernel
theorem dX12_ones_5 : decode cX12_ones 5 = .ok (.bipush 8, 2) := by decide +kernel
theorem dX12_ones_7 : decode cX12_ones 7 = .ok (.if_icmp .ge 17, 3) := by decide +kernel
theorem dX12_ones_10 : decode cX12_ones 10 = .ok (.iload_n 1, 1) := by decide +kernel
theorem dX12_ones_11 : decode cX12_ones 11 = .ok (.iload_n 0, 1) := by decide +kernel
theorem dX12_ones_12 : decode cX12_ones 12 = .ok (.iload_n 2, 1) := by decide +kernel
theorem dX12_ones_13 : decode cX12_ones 13 = .ok (.ishr, 1) := by decide +kernel
theorem dX12_ones_14 : decode cX12_ones 14 = .ok (.iconst 1, 1) := by decide +kernel
theorem dX12_ones_15 : decode cX12_ones 15 = .ok (.iand, 1) := by decide +kernel
theorem dX12_ones_16 : decode cX12_ones 16 = .ok (.iadd, 1) := by decide +kernel
theorem dX12_ones_17 : decode cX12_ones 17 = .ok (.istore_n 1, 1) := by decide +kernel
theorem dX12_ones_18 : decode cX12_ones 18 = .ok (.iinc 2 1, 3) := by decide +kernel
theorem dX12_ones_21 : decode cX12_ones 21 = .ok (.goto (-17), 3) := by decide +kernel
theorem dX12_ones_24 : decode cX12_ones 24 = .ok (.iload_n 1, 1) := by decide +kernel
theorem dX12_ones_25 : decode cX12_ones 25 = .ok (.ireturn, 1) := by decide +kernel
theorem dX12_within_0 : decode cX12_within 0 = .ok (.lload_n 0, 1) := by decide +kernel
theorem dX12_within_1 : decode cX12_within 1 = .ok (.iload_n 2, 1) := by decide +kernel
theorem dX12_within_2 : decode cX12_within 2 = .ok (.i2l, 1) := by decide +kernel
theorem dX12_within_3 : decode cX12_within 3 = .ok (.lcmp, 1) := by decide +kernel
theorem dX12_within_4 : decode cX12_within 4 = .ok (.ifCond .ge 7, 3) := by decide +kernel
theorem dX12_within_7 : decode cX12_within 7 = .ok (.iload_n 2, 1) := by decide +kernel
theorem dX12_within_8 : decode cX12_within 8 = .ok (.goto 16, 3) := by decide +kernel
theorem dX12_within_11 : decode cX12_within 11 = .ok (.lload_n 0, 1) := by decide +kernel
theorem dX12_within_12 : decode cX12_within 12 = .ok (.iload_n 3, 1) := by decide +kernel
theorem dX12_within_13 : decode cX12_within 13 = .ok (.i2l, 1) := by decide +kernel
theorem dX12_within_14 : decode cX12_within 14 = .ok (.lcmp, 1) := by decide +kernel
theorem dX12_within_15 : decode cX12_within 15 = .ok (.ifCond .le 7, 3) := by decide +kernel
theorem dX12_within_18 : decode cX12_within 18 = .ok (.iload_n 3, 1) := by decide +kernel
theorem dX12_within_19 : decode cX12_within 19 = .ok (.goto 5, 3) := by decide +kernel
theorem dX12_within_22 : decode cX12_within 22 = .ok (.lload_n 0, 1) := by decide +kernel
theorem dX12_within_23 : decode cX12_within 23 = .ok (.l2i, 1) := by decide +kernel
theorem dX12_within_24 : decode cX12_within 24 = .ok (.ireturn, 1) := by decide +kernel
theorem dX12_tell_0 : decode cX12_tell 0 = .ok (.aload_n 0, 1) := by decide +kernel
theorem dX12_tell_1 : decode cX12_tell 1 = .ok (.iload_n 1, 1) := by decide +kernel
theorem dX12_tell_2 : decode cX12_tell 2 = .ok (.ifCond .ge 7, 3) := by decide +kernel
theorem dX12_tell_5 : decode cX12_tell 5 = .ok (.iload_n 1, 1) := by decide +kernel
theorem dX12_tell_6 : decode cX12_tell 6 = .ok (.goto 4, 3) := by decide +kernel
theorem dX12_tell_9 : decode cX12_tell 9 = .ok (.iconst 0, 1) := by decide +kernel
theorem dX12_tell_10 : decode cX12_tell 10 = .ok (.putfield 178, 3) := by decide +kernel
theorem dX12_tell_13 : decode cX12_tell 13 = .ok (.iload_n 1, 1) := by decide +kernel
theorem dX12_tell_14 : decode cX12_tell 14 = .ok (.ifCond .ge 14, 3) := by decide +kernel
theorem dX12_tell_17 : decode cX12_tell 17 = .ok (.aload_n 0, 1) := by decide +kernel
theorem dX12_tell_18 : decode cX12_tell 18 = .ok (.getfield 7, 3) := by decide +kernel
theorem dX12_tell_21 : decode cX12_tell 21 = .ok (.iload_n 1, 1) := by decide +kernel
theorem dX12_tell_22 : decode cX12_tell 22 = .ok (.ineg, 1) := by decide +kernel
theorem dX12_tell_23 : decode cX12_tell 23 = .ok (.dup2, 1) := by decide +kernel
theorem dX12_tell_24 : decode cX12_tell 24 = .ok (.iaload, 1) := by decide +kernel
theorem dX12_tell_25 : decode cX12_tell 25 = .ok (.iconst 1, 1) := by decide +kernel
theorem dX12_tell_26 : decode cX12_tell 26 = .ok (.iadd, 1) := by decide +kernel
theorem dX12_tell_27 : decode cX12_tell 27 = .ok (.iastore, 1) := by decide +kernel
theorem dX12_tell_28 : decode cX12_tell 28 = .ok (.iload_n 1, 1) := by decide +kernel
theorem dX12_tell_29 : decode cX12_tell 29 = .ok (.ireturn, 1) := by decide +kernel
theorem dX12_change_0 : decode cX12_change 0 = .ok (.aload_n 0, 1) := by decide +kernel
theorem dX12_change_1 : decode cX12_change 1 = .ok (.getfield 13, 3) := by decide +kernel
theorem dX12_change_4 : decode cX12_change 4 = .ok (.iload_n 1, 1) := by decide +kernel
theorem dX12_change_5 : decode cX12_change 5 = .ok (.iaload, 1) := by decide +kernel
theorem dX12_change_6 : decode cX12_change 6 = .ok (.istore_n 3, 1) := by decide +kernel
theorem dX12_change_7 : decode cX12_change 7 = .ok (.aload_n 0, 1) := by decide +kernel
theorem dX12_change_8 : decode cX12_change 8 = .ok (.getfield 13, 3) := by decide +kernel
theorem dX12_change_11 : decode cX12_change 11 = .ok (.iload_n 1, 1) := by decide +kernel
theorem dX12_change_12 : decode cX12_change 12 = .ok (.iload_n 2, 1) := by decide +kernel
theorem dX12_change_13 : decode cX12_change 13 = .ok (.iastore, 1) := by decide +kernel
theorem dX12_change_14 : decode cX12_change 14 = .ok (.aload_n 0, 1) := by decide +kernel
theorem dX12_change_15 : decode cX12_change 15 = .ok (.iconst 0, 1) := by decide +kernel
theorem dX12_change_16 : decode cX12_change 16 = .ok (.putfield 178, 3) := by decide +kernel
theorem dX12_change_19 : decode cX12_change 19 = .ok (.iload_n 3, 1) := by decide +kernel
theorem dX12_change_20 : decode cX12_change 20 = .ok (.ireturn, 1) := by decide +kernel
theorem dX12_settled_0 : decode cX12_settled 0 = .ok (.aload_n 0, 1) := by decide +kernel
theorem dX12_settled_1 : decode cX12_settled 1 = .ok (.iload_n 1, 1) := by decide +kernel
theorem dX12_settled_2 : decode cX12_settled 2 = .ok (.ifCond .ge 10, 3) := by decide +kernel
theorem dX12_settled_5 : decode cX12_settled 5 = .ok (.aload_n 0, 1) := by decide +kernel
theorem dX12_settled_6 : decode cX12_settled 6 = .ok (.getfield 181, 3) := by decide +kernel
theorem dX12_settled_9 : decode cX12_settled 9 = .ok (.goto 4, 3) := by decide +kernel
theorem dX12_settled_12 : decode cX12_settled 12 = .ok (.iconst 0, 1) := by decide +kernel
theorem dX12_settled_13 : decode cX12_settled 13 = .ok (.putfield 181, 3) := by decide +kernel
theorem dX12_settled_16 : decode cX12_settled 16 = .ok (.aload_n 0, 1) := by decide +kernel
theorem dX12_settled_17 : decode cX12_settled 17 = .ok (.iload_n 1, 1) := by decide +kernel
theorem dX12_settled_18 : decode cX12_settled 18 = .ok (.invokevirtual 184, 3) := by decide +kernel
theorem dX12_settled_21 : decode cX12_settled 21 = .ok (.ireturn, 1) := by decide +kernel
theorem dX12_keepAll_0 : decode cX12_keepAll 0 = .ok (.iconst 0, 1) := by decide +kernel
theorem dX12_keepAll_1 : decode cX12_keepAll 1 = .ok (.istore_n 2, 1) := by decide +kernel
theorem dX12_keepAll_2 : decode cX12_keepAll 2 = .ok (.iload_n 2, 1) := by decide +kernel
theorem dX12_keepAll_3 : decode cX12_keepAll 3 = .ok (.bipush 75, 2) := by decide +kernel
theorem dX12_keepAll_5 : decode cX12_keepAll 5 = .ok (.if_icmp .ge 28, 3) := by decide +kernel
theorem dX12_keepAll_8 : decode cX12_keepAll 8 = .ok (.aload_n 0, 1) := by decide +kernel
theorem dX12_keepAll_9 : decode cX12_keepAll 9 = .ok (.getfield 23, 3) := by decide +kernel
theorem dX12_keepAll_12 : decode cX12_keepAll 12 = .ok (.bipush 75, 2) := by decide +kernel
theorem dX12_keepAll_14 : decode cX12_keepAll 14 = .ok (.iload_n 1, 1) := by decide +kernel
theorem dX12_keepAll_15 : decode cX12_keepAll 15 = .ok (.imul, 1) := by decide +kernel
theorem dX12_keepAll_16 : decode cX12_keepAll 16 = .ok (.iload_n 2, 1) := by decide +kernel
theorem dX12_keepAll_17 : decode cX12_keepAll 17 = .ok (.iadd, 1) := by decide +kernel
theorem dX12_keepAll_18 : decode cX12_keepAll 18 = .ok (.aload_n 0, 1) := by decide +kernel
theorem dX12_keepAll_19 : decode cX12_keepAll 19 = .ok (.getfield 13, 3) := by decide +kernel
theorem dX12_keepAll_22 : decode cX12_keepAll 22 = .ok (.iconst 5, 1) := by decide +kernel
theorem dX12_keepAll_23 : decode cX12_keepAll 23 = .ok (.iload_n 2, 1) := by decide +kernel
theorem dX12_keepAll_24 : decode cX12_keepAll 24 = .ok (.iadd, 1) := by decide +kernel
theorem dX12_keepAll_25 : decode cX12_keepAll 25 = .ok (.iaload, 1) := by decide +kernel
theorem dX12_keepAll_26 : decode cX12_keepAll 26 = .ok (.iastore, 1) := by decide +kernel
theorem dX12_keepAll_27 : decode cX12_keepAll 27 = .ok (.iinc 2 1, 3) := by decide +kernel
theorem dX12_keepAll_30 : decode cX12_keepAll 30 = .ok (.goto (-28), 3) := by decide +kernel
theorem dX12_keepAll_33 : decode cX12_keepAll 33 = .ok (.return_, 1) := by decide +kernel
theorem dX12_putBack_0 : decode cX12_putBack 0 = .ok (.iconst 0, 1) := by decide +kernel
theorem dX12_putBack_1 : decode cX12_putBack 1 = .ok (.istore_n 2, 1) := by decide +kernel
theorem dX12_putBack_2 : decode cX12_putBack 2 = .ok (.iload_n 2, 1) := by decide +kernel
theorem dX12_putBack_3 : decode cX12_putBack 3 = .ok (.bipush 75, 2) := by decide +kernel
theorem dX12_putBack_5 : decode cX12_putBack 5 = .ok (.if_icmp .ge 28, 3) := by decide +kernel
theorem dX12_putBack_8 : decode cX12_putBack 8 = .ok (.aload_n 0, 1) := by decide +kernel
theorem dX12_putBack_9 : decode cX12_putBack 9 = .ok (.getfield 13, 3) := by decide +kernel
theorem dX12_putBack_12 : decode cX12_putBack 12 = .ok (.iconst 5, 1) := by decide +kernel
theorem dX12_putBack_13 : decode cX12_putBack 13 = .ok (.iload_n 2, 1) := by decide +kernel
theorem dX12_putBack_14 : decode cX12_putBack 14 = .ok (.iadd, 1) := by decide +kernel
theorem dX12_putBack_15 : decode cX12_putBack 15 = .ok (.aload_n 0, 1) := by decide +kernel
theorem dX12_putBack_16 : decode cX12_putBack 16 = .ok (.getfield 23, 3) := by decide +kernel
theorem dX12_putBack_19 : decode cX12_putBack 19 = .ok (.bipush 75, 2) := by decide +kernel
theorem dX12_putBack_21 : decode cX12_putBack 21 = .ok (.iload_n 1, 1) := by decide +kernel
theorem dX12_putBack_22 : decode cX12_putBack 22 = .ok (.imul, 1) := by decide +kernel
theorem dX12_putBack_23 : decode cX12_putBack 23 = .ok (.iload_n 2, 1) := by decide +kernel
theorem dX12_putBack_24 : decode cX12_putBack 24 = .ok (.iadd, 1) := by decide +kernel
theorem dX12_putBack_25 : decode cX12_putBack 25 = .ok (.iaload, 1) := by decide +kernel
theorem dX12_putBack_26 : decode cX12_putBack 26 = .ok (.iastore, 1) := by decide +kernel
theorem dX12_putBack_27 : decode cX12_putBack 27 = .ok (.iinc 2 1, 3) := by decide +kernel
theorem dX12_putBack_30 : decode cX12_putBack 30 = .ok (.goto (-28), 3) := by decide +kernel
theorem dX12_putBack_33 : decode cX12_putBack 33 = .ok (.return_, 1) := by decide +kernel
theorem dX12_remember_0 : decode cX12_remember 0 = .ok (.aload_n 0, 1) := by decide +kernel
theorem dX12_remember_1 : decode cX12_remember 1 = .ok (.getfield 181, 3) := by decide +kernel
theorem dX12_remember_4 : decode cX12_remember 4 = .ok (.bipush 16, 2) := by decide +kernel
theorem dX12_remember_6 : decode cX12_remember 6 = .ok (.if_icmp .ne 71, 3) := by decide +kernel
theorem dX12_remember_9 : decode cX12_remember 9 = .ok (.iconst 0, 1) := by decide +kernel
theorem dX12_remember_10 : decode cX12_remember 10 = .ok (.istore_n 2, 1) := by decide +kernel
theorem dX12_remember_11 : decode cX12_remember 11 = .ok (.iload_n 2, 1) := by decide +kernel
theorem dX12_remember_12 : decode cX12_remember 12 = .ok (.sipush 1125, 3) := by decide +kernel
theorem dX12_remember_15 : decode cX12_remember 15 = .ok (.if_icmp .ge 24, 3) := by decide +kernel
theorem dX12_remember_18 : decode cX12_remember 18 = .ok (.aload_n 0, 1) := by decide +kernel
theorem dX12_remember_19 : decode cX12_remember 19 = .ok (.getfield 23, 3) := by decide +kernel
theorem dX12_remember_22 : decode cX12_remember 22 = .ok (.iload_n 2, 1) := by decide +kernel
theorem dX12_remember_23 : decode cX12_remember 23 = .ok (.aload_n 0, 1) := by decide +kernel
theorem dX12_remember_24 : decode cX12_remember 24 = .ok (.getfield 23, 3) := by decide +kernel
theorem dX12_remember_27 : decode cX12_remember 27 = .ok (.iload_n 2, 1) := by decide +kernel
theorem dX12_remember_28 : decode cX12_remember 28 = .ok (.bipush 75, 2) := by decide +kernel
theorem dX12_remember_30 : decode cX12_remember 30 = .ok (.iadd, 1) := by decide +kernel
theorem dX12_remember_31 : decode cX12_remember 31 = .ok (.iaload, 1) := by decide +kernel
theorem dX12_remember_32 : decode cX12_remember 32 = .ok (.iastore, 1) := by decide +kernel
theorem dX12_remember_33 : decode cX12_remember 33 = .ok (.iinc 2 1, 3) := by decide +kernel
theorem dX12_remember_36 : decode cX12_remember 36 = .ok (.goto (-25), 3) := by decide +kernel
theorem dX12_remember_39 : decode cX12_remember 39 = .ok (.iconst 0, 1) := by decide +kernel
theorem dX12_remember_40 : decode cX12_remember 40 = .ok (.istore_n 2, 1) := by decide +kernel
theorem dX12_remember_41 : decode cX12_remember 41 = .ok (.iload_n 2, 1) := by decide +kernel
theorem dX12_remember_42 : decode cX12_remember 42 = .ok (.bipush 15, 2) := by decide +kernel
theorem dX12_remember_44 : decode cX12_remember 44 = .ok (.if_icmp .ge 23, 3) := by decide +kernel
theorem dX12_remember_47 : decode cX12_remember 47 = .ok (.aload_n 0, 1) := by decide +kernel
theorem dX12_remember_48 : decode cX12_remember 48 = .ok (.getfield 26, 3) := by decide +kernel
theorem dX12_remember_51 : decode cX12_remember 51 = .ok (.iload_n 2, 1) := by decide +kernel
theorem dX12_remember_52 : decode cX12_remember 52 = .ok (.aload_n 0, 1) := by decide +kernel
theorem dX12_remember_53 : decode cX12_remember 53 = .ok (.getfield 26, 3) := by decide +kernel
theorem dX12_remember_56 : decode cX12_remember 56 = .ok (.iload_n 2, 1) := by decide +kernel
theorem dX12_remember_57 : decode cX12_remember 57 = .ok (.iconst 1, 1) := by decide +kernel
theorem dX12_remember_58 : decode cX12_remember 58 = .ok (.iadd, 1) := by decide +kernel
theorem dX12_remember_59 : decode cX12_remember 59 = .ok (.iaload, 1) := by decide +kernel
theorem dX12_remember_60 : decode cX12_remember 60 = .ok (.iastore, 1) := by decide +kernel
theorem dX12_remember_61 : decode cX12_remember 61 = .ok (.iinc 2 1, 3) := by decide +kernel
theorem dX12_remember_64 : decode cX12_remember 64 = .ok (.goto (-23), 3) := by decide +kernel
theorem dX12_remember_67 : decode cX12_remember 67 = .ok (.aload_n 0, 1) := by decide +kernel
theorem dX12_remember_68 : decode cX12_remember 68 = .ok (.dup, 1) := by decide +kernel
theorem dX12_remember_69 : decode cX12_remember 69 = .ok (.getfield 181, 3) := by decide +kernel
theorem dX12_remember_72 : decode cX12_remember 72 = .ok (.iconst 1, 1) := by decide +kernel
theorem dX12_remember_73 : decode cX12_remember 73 = .ok (.isub, 1) := by decide +kernel
theorem dX12_remember_74 : decode cX12_remember 74 = .ok (.putfield 181, 3) := by decide +kernel
theorem dX12_remember_77 : decode cX12_remember 77 = .ok (.aload_n 0, 1) := by decide +kernel
theorem dX12_remember_78 : decode cX12_remember 78 = .ok (.aload_n 0, 1) := by decide +kernel
theorem dX12_remember_79 : decode cX12_remember 79 = .ok (.getfield 181, 3) := by decide +kernel
theorem dX12_remember_82 : decode cX12_remember 82 = .ok (.invokevirtual 188, 3) := by decide +kernel
theorem dX12_remember_85 : decode cX12_remember 85 = .ok (.aload_n 0, 1) := by decide +kernel
theorem dX12_remember_86 : decode cX12_remember 86 = .ok (.getfield 26, 3) := by decide +kernel
theorem dX12_remember_89 : decode cX12_remember 89 = .ok (.aload_n 0, 1) := by decide +kernel
theorem dX12_remember_90 : decode cX12_remember 90 = .ok (.getfield 181, 3) := by decide +kernel
theorem dX12_remember_93 : decode cX12_remember 93 = .ok (.iload_n 1, 1) := by decide +kernel
theorem dX12_remember_94 : decode cX12_remember 94 = .ok (.iastore, 1) := by decide +kernel
theorem dX12_remember_95 : decode cX12_remember 95 = .ok (.aload_n 0, 1) := by decide +kernel
theorem dX12_remember_96 : decode cX12_remember 96 = .ok (.dup, 1) := by decide +kernel
theorem dX12_remember_97 : decode cX12_remember 97 = .ok (.getfield 181, 3) := by decide +kernel
theorem dX12_remember_100 : decode cX12_remember 100 = .ok (.iconst 1, 1) := by decide +kernel
theorem dX12_remember_101 : decode cX12_remember 101 = .ok (.iadd, 1) := by decide +kernel
theorem dX12_remember_102 : decode cX12_remember 102 = .ok (.putfield 181, 3) := by decide +kernel
theorem dX12_remember_105 : decode cX12_remember 105 = .ok (.return_, 1) := by decide +kernel
theorem dX12_undo_0 : decode cX12_undo 0 = .ok (.aload_n 0, 1) := by decide +kernel
theorem dX12_undo_1 : decode cX12_undo 1 = .ok (.iconst 0, 1) := by decide +kernel
theorem dX12_undo_2 : decode cX12_undo 2 = .ok (.putfield 175, 3) := by decide +kernel
theorem dX12_undo_5 : decode cX12_undo 5 = .ok (.aload_n 0, 1) := by decide +kernel
theorem dX12_undo_6 : decode cX12_undo 6 = .ok (.getfield 181, 3) := by decide +kernel
theorem dX12_undo_9 : decode cX12_undo 9 = .ok (.ifCond .ne 10, 3) := by decide +kernel
theorem dX12_undo_12 : decode cX12_undo 12 = .ok (.aload_n 0, 1) := by decide +kernel
theorem dX12_undo_13 : decode cX12_undo 13 = .ok (.bipush (-3), 2) := by decide +kernel
theorem dX12_undo_15 : decode cX12_undo 15 = .ok (.invokevirtual 184, 3) := by decide +kernel
theorem dX12_undo_18 : decode cX12_undo 18 = .ok (.ireturn, 1) := by decide +kernel
theorem dX12_undo_19 : decode cX12_undo 19 = .ok (.aload_n 0, 1) := by decide +kernel
theorem dX12_undo_20 : decode cX12_undo 20 = .ok (.dup, 1) := by decide +kernel
theorem dX12_undo_21 : decode cX12_undo 21 = .ok (.getfield 181, 3) := by decide +kernel
theorem dX12_undo_24 : decode cX12_undo 24 = .ok (.iconst 1, 1) := by decide +kernel
theorem dX12_undo_25 : decode cX12_undo 25 = .ok (.isub, 1) := by decide +kernel
theorem dX12_undo_26 : decode cX12_undo 26 = .ok (.putfield 181, 3) := by decide +kernel
theorem dX12_undo_29 : decode cX12_undo 29 = .ok (.aload_n 0, 1) := by decide +kernel
theorem dX12_undo_30 : decode cX12_undo 30 = .ok (.aload_n 0, 1) := by decide +kernel
theorem dX12_undo_31 : decode cX12_undo 31 = .ok (.getfield 181, 3) := by decide +kernel
theorem dX12_undo_34 : decode cX12_undo 34 = .ok (.invokevirtual 192, 3) := by decide +kernel
theorem dX12_undo_37 : decode cX12_undo 37 = .ok (.aload_n 0, 1) := by decide +kernel
theorem dX12_undo_38 : decode cX12_undo 38 = .ok (.aload_n 0, 1) := by decide +kernel
theorem dX12_undo_39 : decode cX12_undo 39 = .ok (.getfield 26, 3) := by decide +kernel
theorem dX12_undo_42 : decode cX12_undo 42 = .ok (.aload_n 0, 1) := by decide +kernel
theorem dX12_undo_43 : decode cX12_undo 43 = .ok (.getfield 181, 3) := by decide +kernel
theorem dX12_undo_46 : decode cX12_undo 46 = .ok (.iaload, 1) := by decide +kernel
theorem dX12_undo_47 : decode cX12_undo 47 = .ok (.invokevirtual 184, 3) := by decide +kernel
theorem dX12_undo_50 : decode cX12_undo 50 = .ok (.ireturn, 1) := by decide +kernel
theorem dX12_image_0 : decode cX12_image 0 = .ok (.aload_n 0, 1) := by decide +kernel
theorem dX12_image_1 : decode cX12_image 1 = .ok (.iconst 0, 1) := by decide +kernel
theorem dX12_image_2 : decode cX12_image 2 = .ok (.putfield 175, 3) := by decide +kernel
theorem dX12_image_5 : decode cX12_image 5 = .ok (.iload_n 1, 1) := by decide +kernel
theorem dX12_image_6 : decode cX12_image 6 = .ok (.i2l, 1) := by decide +kernel
theorem dX12_image_7 : decode cX12_image 7 = .ok (.lconst 0, 1) := by decide +kernel
theorem dX12_image_8 : decode cX12_image 8 = .ok (.lconst 1, 1) := by decide +kernel
theorem dX12_image_9 : decode cX12_image 9 = .ok (.invokestatic 195, 3) := by decide +kernel
theorem dX12_image_12 : decode cX12_image 12 = .ok (.ifCond .ne 9, 3) := by decide +kernel
theorem dX12_image_15 : decode cX12_image 15 = .ok (.aload_n 0, 1) := by decide +kernel
theorem dX12_image_16 : decode cX12_image 16 = .ok (.iconst (-1), 1) := by decide +kernel
theorem dX12_image_17 : decode cX12_image 17 = .ok (.invokevirtual 184, 3) := by decide +kernel
theorem dX12_image_20 : decode cX12_image 20 = .ok (.ireturn, 1) := by decide +kernel
theorem dX12_image_21 : decode cX12_image 21 = .ok (.iconst 0, 1) := by decide +kernel
theorem dX12_image_22 : decode cX12_image 22 = .ok (.istore_n 2, 1) := by decide +kernel
theorem dX12_image_23 : decode cX12_image 23 = .ok (.iload_n 2, 1) := by decide +kernel
theorem dX12_image_24 : decode cX12_image 24 = .ok (.sipush 5516, 3) := by decide +kernel
theorem dX12_image_27 : decode cX12_image 27 = .ok (.if_icmp .ge 27, 3) := by decide +kernel
theorem dX12_image_30 : decode cX12_image 30 = .ok (.aload_n 0, 1) := by decide +kernel
theorem dX12_image_31 : decode cX12_image 31 = .ok (.getfield 16, 3) := by decide +kernel
theorem dX12_image_34 : decode cX12_image 34 = .ok (.sipush 5516, 3) := by decide +kernel
theorem dX12_image_37 : decode cX12_image 37 = .ok (.iload_n 1, 1) := by decide +kernel
theorem dX12_image_38 : decode cX12_image 38 = .ok (.imul, 1) := by decide +kernel
theorem dX12_image_39 : decode cX12_image 39 = .ok (.iload_n 2, 1) := by decide +kernel
theorem dX12_image_40 : decode cX12_image 40 = .ok (.iadd, 1) := by decide +kernel
theorem dX12_image_41 : decode cX12_image 41 = .ok (.aload_n 0, 1) := by decide +kernel
theorem dX12_image_42 : decode cX12_image 42 = .ok (.getfield 13, 3) := by decide +kernel
theorem dX12_image_45 : decode cX12_image 45 = .ok (.iload_n 2, 1) := by decide +kernel
theorem dX12_image_46 : decode cX12_image 46 = .ok (.iaload, 1) := by decide +kernel
theorem dX12_image_47 : decode cX12_image 47 = .ok (.iastore, 1) := by decide +kernel
theorem dX12_image_48 : decode cX12_image 48 = .ok (.iinc 2 1, 3) := by decide +kernel
theorem dX12_image_51 : decode cX12_image 51 = .ok (.goto (-28), 3) := by decide +kernel
theorem dX12_image_54 : decode cX12_image 54 = .ok (.aload_n 0, 1) := by decide +kernel
theorem dX12_image_55 : decode cX12_image 55 = .ok (.getfield 19, 3) := by decide +kernel
theorem dX12_image_58 : decode cX12_image 58 = .ok (.iload_n 1, 1) := by decide +kernel
theorem dX12_image_59 : decode cX12_image 59 = .ok (.iconst 1, 1) := by decide +kernel
theorem dX12_image_60 : decode cX12_image 60 = .ok (.bastore, 1) := by decide +kernel
theorem dX12_image_61 : decode cX12_image 61 = .ok (.aload_n 0, 1) := by decide +kernel
theorem dX12_image_62 : decode cX12_image 62 = .ok (.iconst 0, 1) := by decide +kernel
theorem dX12_image_63 : decode cX12_image 63 = .ok (.invokevirtual 184, 3) := by decide +kernel
theorem dX12_image_66 : decode cX12_image 66 = .ok (.ireturn, 1) := by decide +kernel
theorem dX12_back_0 : decode cX12_back 0 = .ok (.aload_n 0, 1) := by decide +kernel
theorem dX12_back_1 : decode cX12_back 1 = .ok (.iconst 0, 1) := by decide +kernel
theorem dX12_back_2 : decode cX12_back 2 = .ok (.putfield 175, 3) := by decide +kernel
theorem dX12_back_5 : decode cX12_back 5 = .ok (.iload_n 1, 1) := by decide +kernel
theorem dX12_back_6 : decode cX12_back 6 = .ok (.i2l, 1) := by decide +kernel
theorem dX12_back_7 : decode cX12_back 7 = .ok (.lconst 0, 1) := by decide +kernel
theorem dX12_back_8 : decode cX12_back 8 = .ok (.lconst 1, 1) := by decide +kernel
theorem dX12_back_9 : decode cX12_back 9 = .ok (.invokestatic 195, 3) := by decide +kernel
theorem dX12_back_12 : decode cX12_back 12 = .ok (.ifCond .ne 9, 3) := by decide +kernel
theorem dX12_back_15 : decode cX12_back 15 = .ok (.aload_n 0, 1) := by decide +kernel
theorem dX12_back_16 : decode cX12_back 16 = .ok (.iconst (-1), 1) := by decide +kernel
theorem dX12_back_17 : decode cX12_back 17 = .ok (.invokevirtual 184, 3) := by decide +kernel
theorem dX12_back_20 : decode cX12_back 20 = .ok (.ireturn, 1) := by decide +kernel
theorem dX12_back_21 : decode cX12_back 21 = .ok (.aload_n 0, 1) := by decide +kernel
theorem dX12_back_22 : decode cX12_back 22 = .ok (.getfield 19, 3) := by decide +kernel
theorem dX12_back_25 : decode cX12_back 25 = .ok (.iload_n 1, 1) := by decide +kernel
theorem dX12_back_26 : decode cX12_back 26 = .ok (.baload, 1) := by decide +kernel
theorem dX12_back_27 : decode cX12_back 27 = .ok (.ifCond .ne 10, 3) := by decide +kernel
theorem dX12_back_30 : decode cX12_back 30 = .ok (.aload_n 0, 1) := by decide +kernel
theorem dX12_back_31 : decode cX12_back 31 = .ok (.bipush (-2), 2) := by decide +kernel
theorem dX12_back_33 : decode cX12_back 33 = .ok (.invokevirtual 184, 3) := by decide +kernel
theorem dX12_back_36 : decode cX12_back 36 = .ok (.ireturn, 1) := by decide +kernel
theorem dX12_back_37 : decode cX12_back 37 = .ok (.iconst 0, 1) := by decide +kernel
theorem dX12_back_38 : decode cX12_back 38 = .ok (.istore_n 2, 1) := by decide +kernel
theorem dX12_back_39 : decode cX12_back 39 = .ok (.iload_n 2, 1) := by decide +kernel
theorem dX12_back_40 : decode cX12_back 40 = .ok (.sipush 5516, 3) := by decide +kernel
theorem dX12_back_43 : decode cX12_back 43 = .ok (.if_icmp .ge 27, 3) := by decide +kernel
theorem dX12_back_46 : decode cX12_back 46 = .ok (.aload_n 0, 1) := by decide +kernel
theorem dX12_back_47 : decode cX12_back 47 = .ok (.getfield 13, 3) := by decide +kernel
theorem dX12_back_50 : decode cX12_back 50 = .ok (.iload_n 2, 1) := by decide +kernel
theorem dX12_back_51 : decode cX12_back 51 = .ok (.aload_n 0, 1) := by decide +kernel
theorem dX12_back_52 : decode cX12_back 52 = .ok (.getfield 16, 3) := by decide +kernel
theorem dX12_back_55 : decode cX12_back 55 = .ok (.sipush 5516, 3) := by decide +kernel
theorem dX12_back_58 : decode cX12_back 58 = .ok (.iload_n 1, 1) := by decide +kernel
theorem dX12_back_59 : decode cX12_back 59 = .ok (.imul, 1) := by decide +kernel
theorem dX12_back_60 : decode cX12_back 60 = .ok (.iload_n 2, 1) := by decide +kernel
theorem dX12_back_61 : decode cX12_back 61 = .ok (.iadd, 1) := by decide +kernel
theorem dX12_back_62 : decode cX12_back 62 = .ok (.iaload, 1) := by decide +kernel
theorem dX12_back_63 : decode cX12_back 63 = .ok (.iastore, 1) := by decide +kernel
theorem dX12_back_64 : decode cX12_back 64 = .ok (.iinc 2 1, 3) := by decide +kernel
theorem dX12_back_67 : decode cX12_back 67 = .ok (.goto (-28), 3) := by decide +kernel
theorem dX12_back_70 : decode cX12_back 70 = .ok (.aload_n 0, 1) := by decide +kernel
theorem dX12_back_71 : decode cX12_back 71 = .ok (.iconst 0, 1) := by decide +kernel
theorem dX12_back_72 : decode cX12_back 72 = .ok (.invokevirtual 199, 3) := by decide +kernel
theorem dX12_back_75 : decode cX12_back 75 = .ok (.ireturn, 1) := by decide +kernel
theorem dX12_isBox_0 : decode cX12_isBox 0 = .ok (.iload_n 1, 1) := by decide +kernel
theorem dX12_isBox_1 : decode cX12_isBox 1 = .ok (.i2l, 1) := by decide +kernel
theorem dX12_isBox_2 : decode cX12_isBox 2 = .ok (.lconst 0, 1) := by decide +kernel
theorem dX12_isBox_3 : decode cX12_isBox 3 = .ok (.aload_n 0, 1) := by decide +kernel
theorem dX12_isBox_4 : decode cX12_isBox 4 = .ok (.getfield 13, 3) := by decide +kernel
theorem dX12_isBox_7 : decode cX12_isBox 7 = .ok (.iconst 0, 1) := by decide +kernel
theorem dX12_isBox_8 : decode cX12_isBox 8 = .ok (.iaload, 1) := by decide +kernel
theorem dX12_isBox_9 : decode cX12_isBox 9 = .ok (.i2l, 1) := by decide +kernel
theorem dX12_isBox_10 : decode cX12_isBox 10 = .ok (.lconst 1, 1) := by decide +kernel
theorem dX12_isBox_11 : decode cX12_isBox 11 = .ok (.lsub, 1) := by decide +kernel
theorem dX12_isBox_12 : decode cX12_isBox 12 = .ok (.invokestatic 195, 3) := by decide +kernel
theorem dX12_isBox_15 : decode cX12_isBox 15 = .ok (.ireturn, 1) := by decide +kernel
theorem dX12_isSuitor_0 : decode cX12_isSuitor 0 = .ok (.iload_n 1, 1) := by decide +kernel
theorem dX12_isSuitor_1 : decode cX12_isSuitor 1 = .ok (.i2l, 1) := by decide +kernel
theorem dX12_isSuitor_2 : decode cX12_isSuitor 2 = .ok (.lconst 0, 1) := by decide +kernel
theorem dX12_isSuitor_3 : decode cX12_isSuitor 3 = .ok (.aload_n 0, 1) := by decide +kernel
theorem dX12_isSuitor_4 : decode cX12_isSuitor 4 = .ok (.getfield 13, 3) := by decide +kernel
theorem dX12_isSuitor_7 : decode cX12_isSuitor 7 = .ok (.iconst 1, 1) := by decide +kernel
theorem dX12_isSuitor_8 : decode cX12_isSuitor 8 = .ok (.iaload, 1) := by decide +kernel
theorem dX12_isSuitor_9 : decode cX12_isSuitor 9 = .ok (.i2l, 1) := by decide +kernel
theorem dX12_isSuitor_10 : decode cX12_isSuitor 10 = .ok (.lconst 1, 1) := by decide +kernel
theorem dX12_isSuitor_11 : decode cX12_isSuitor 11 = .ok (.lsub, 1) := by decide +kernel
theorem dX12_isSuitor_12 : decode cX12_isSuitor 12 = .ok (.invokestatic 195, 3) := by decide +kernel
theorem dX12_isSuitor_15 : decode cX12_isSuitor 15 = .ok (.ireturn, 1) := by decide +kernel
theorem dX12_isBar_0 : decode cX12_isBar 0 = .ok (.iload_n 0, 1) := by decide +kernel
theorem dX12_isBar_1 : decode cX12_isBar 1 = .ok (.i2l, 1) := by decide +kernel
theorem dX12_isBar_2 : decode cX12_isBar 2 = .ok (.lconst 0, 1) := by decide +kernel
theorem dX12_isBar_3 : decode cX12_isBar 3 = .ok (.ldc2_w 202, 3) := by decide +kernel
theorem dX12_isBar_6 : decode cX12_isBar 6 = .ok (.invokestatic 195, 3) := by decide +kernel
theorem dX12_isBar_9 : decode cX12_isBar 9 = .ok (.ireturn, 1) := by decide +kernel
theorem dX12_isTooth_0 : decode cX12_isTooth 0 = .ok (.iload_n 0, 1) := by decide +kernel
theorem dX12_isTooth_1 : decode cX12_isTooth 1 = .ok (.i2l, 1) := by decide +kernel
theorem dX12_isTooth_2 : decode cX12_isTooth 2 = .ok (.lconst 0, 1) := by decide +kernel
theorem dX12_isTooth_3 : decode cX12_isTooth 3 = .ok (.ldc2_w 202, 3) := by decide +kernel
theorem dX12_isTooth_6 : decode cX12_isTooth 6 = .ok (.invokestatic 195, 3) := by decide +kernel
theorem dX12_isTooth_9 : decode cX12_isTooth 9 = .ok (.ireturn, 1) := by decide +kernel
theorem dX12_notesAt_0 : decode cX12_notesAt 0 = .ok (.aload_n 0, 1) := by decide +kernel
theorem dX12_notesAt_1 : decode cX12_notesAt 1 = .ok (.getfield 13, 3) := by decide +kernel
theorem dX12_notesAt_4 : decode cX12_notesAt 4 = .ok (.bipush 8, 2) := by decide +kernel
theorem dX12_notesAt_6 : decode cX12_notesAt 6 = .ok (.bipush 8, 2) := by decide +kernel
theorem dX12_notesAt_8 : decode cX12_notesAt 8 = .ok (.iload_n 1, 1) := by decide +kernel
theorem dX12_notesAt_9 : decode cX12_notesAt 9 = .ok (.imul, 1) := by decide +kernel
theorem dX12_notesAt_10 : decode cX12_notesAt 10 = .ok (.iadd, 1) := by decide +kernel
theorem dX12_notesAt_11 : decode cX12_notesAt 11 = .ok (.iload_n 2, 1) := by decide +kernel
theorem dX12_notesAt_12 : decode cX12_notesAt 12 = .ok (.iadd, 1) := by decide +kernel
theorem dX12_notesAt_13 : decode cX12_notesAt 13 = .ok (.iaload, 1) := by decide +kernel
theorem dX12_notesAt_14 : decode cX12_notesAt 14 = .ok (.aload_n 0, 1) := by decide +kernel
theorem dX12_notesAt_15 : decode cX12_notesAt 15 = .ok (.getfield 13, 3) := by decide +kernel
theorem dX12_notesAt_18 : decode cX12_notesAt 18 = .ok (.bipush 56, 2) := by decide +kernel
theorem dX12_notesAt_20 : decode cX12_notesAt 20 = .ok (.iload_n 1, 1) := by decide +kernel
theorem dX12_notesAt_21 : decode cX12_notesAt 21 = .ok (.iadd, 1) := by decide +kernel
theorem dX12_notesAt_22 : decode cX12_notesAt 22 = .ok (.iaload, 1) := by decide +kernel
theorem dX12_notesAt_23 : decode cX12_notesAt 23 = .ok (.iconst (-1), 1) := by decide +kernel
theorem dX12_notesAt_24 : decode cX12_notesAt 24 = .ok (.ixor, 1) := by decide +kernel
theorem dX12_notesAt_25 : decode cX12_notesAt 25 = .ok (.iand, 1) := by decide +kernel
theorem dX12_notesAt_26 : decode cX12_notesAt 26 = .ok (.ireturn, 1) := by decide +kernel
theorem dX12_notesOf_0 : decode cX12_notesOf 0 = .ok (.iconst 0, 1) := by decide +kernel
theorem dX12_notesOf_1 : decode cX12_notesOf 1 = .ok (.istore_n 2, 1) := by decide +kernel
theorem dX12_notesOf_2 : decode cX12_notesOf 2 = .ok (.iconst 0, 1) := by decide +kernel
theorem dX12_notesOf_3 : decode cX12_notesOf 3 = .ok (.istore_n 3, 1) := by decide +kernel
theorem dX12_notesOf_4 : decode cX12_notesOf 4 = .ok (.iload_n 3, 1) := by decide +kernel
theorem dX12_notesOf_5 : decode cX12_notesOf 5 = .ok (.bipush 8, 2) := by decide +kernel
theorem dX12_notesOf_7 : decode cX12_notesOf 7 = .ok (.if_icmp .ge 21, 3) := by decide +kernel
theorem dX12_notesOf_10 : decode cX12_notesOf 10 = .ok (.iload_n 2, 1) := by decide +kernel
theorem dX12_notesOf_11 : decode cX12_notesOf 11 = .ok (.aload_n 0, 1) := by decide +kernel
theorem dX12_notesOf_12 : decode cX12_notesOf 12 = .ok (.iload_n 1, 1) := by decide +kernel
theorem dX12_notesOf_13 : decode cX12_notesOf 13 = .ok (.iload_n 3, 1) := by decide +kernel
theorem dX12_notesOf_14 : decode cX12_notesOf 14 = .ok (.invokevirtual 204, 3) := by decide +kernel
theorem dX12_notesOf_17 : decode cX12_notesOf 17 = .ok (.invokestatic 208, 3) := by decide +kernel
theorem dX12_notesOf_20 : decode cX12_notesOf 20 = .ok (.iadd, 1) := by decide +kernel
theorem dX12_notesOf_21 : decode cX12_notesOf 21 = .ok (.istore_n 2, 1) := by decide +kernel
theorem dX12_notesOf_22 : decode cX12_notesOf 22 = .ok (.iinc 3 1, 3) := by decide +kernel
theorem dX12_notesOf_25 : decode cX12_notesOf 25 = .ok (.goto (-21), 3) := by decide +kernel
theorem dX12_notesOf_28 : decode cX12_notesOf 28 = .ok (.iload_n 2, 1) := by decide +kernel
theorem dX12_notesOf_29 : decode cX12_notesOf 29 = .ok (.ireturn, 1) := by decide +kernel
theorem dX12_earOf_0 : decode cX12_earOf 0 = .ok (.iconst 0, 1) := by decide +kernel
theorem dX12_earOf_1 : decode cX12_earOf 1 = .ok (.istore_n 3, 1) := by decide +kernel
theorem dX12_earOf_2 : decode cX12_earOf 2 = .ok (.iconst 0, 1) := by decide +kernel
theorem dX12_earOf_3 : decode cX12_earOf 3 = .ok (.istore 4, 2) := by decide +kernel
theorem dX12_earOf_5 : decode cX12_earOf 5 = .ok (.iload 4, 2) := by decide +kernel
theorem dX12_earOf_7 : decode cX12_earOf 7 = .ok (.bipush 8, 2) := by decide +kernel
theorem dX12_earOf_9 : decode cX12_earOf 9 = .ok (.if_icmp .ge 31, 3) := by decide +kernel
theorem dX12_earOf_12 : decode cX12_earOf 12 = .ok (.iload_n 3, 1) := by decide +kernel
theorem dX12_earOf_13 : decode cX12_earOf 13 = .ok (.aload_n 0, 1) := by decide +kernel
theorem dX12_earOf_14 : decode cX12_earOf 14 = .ok (.iload_n 1, 1) := by decide +kernel
theorem dX12_earOf_15 : decode cX12_earOf 15 = .ok (.iload 4, 2) := by decide +kernel
theorem dX12_earOf_17 : decode cX12_earOf 17 = .ok (.invokevirtual 204, 3) := by decide +kernel
theorem dX12_earOf_20 : decode cX12_earOf 20 = .ok (.aload_n 0, 1) := by decide +kernel
theorem dX12_earOf_21 : decode cX12_earOf 21 = .ok (.getfield 13, 3) := by decide +kernel
theorem dX12_earOf_24 : decode cX12_earOf 24 = .ok (.bipush 80, 2) := by decide +kernel
theorem dX12_earOf_26 : decode cX12_earOf 26 = .ok (.iload_n 2, 1) := by decide +kernel
theorem dX12_earOf_27 : decode cX12_earOf 27 = .ok (.iadd, 1) := by decide +kernel
theorem dX12_earOf_28 : decode cX12_earOf 28 = .ok (.iaload, 1) := by decide +kernel
theorem dX12_earOf_29 : decode cX12_earOf 29 = .ok (.ishr, 1) := by decide +kernel
theorem dX12_earOf_30 : decode cX12_earOf 30 = .ok (.iconst 1, 1) := by decide +kernel
theorem dX12_earOf_31 : decode cX12_earOf 31 = .ok (.iand, 1) := by decide +kernel
theorem dX12_earOf_32 : decode cX12_earOf 32 = .ok (.iadd, 1) := by decide +kernel
theorem dX12_earOf_33 : decode cX12_earOf 33 = .ok (.istore_n 3, 1) := by decide +kernel
theorem dX12_earOf_34 : decode cX12_earOf 34 = .ok (.iinc 4 1, 3) := by decide +kernel
theorem dX12_earOf_37 : decode cX12_earOf 37 = .ok (.goto (-32), 3) := by decide +kernel
theorem dX12_earOf_40 : decode cX12_earOf 40 = .ok (.iload_n 3, 1) := by decide +kernel
theorem dX12_earOf_41 : decode cX12_earOf 41 = .ok (.ireturn, 1) := by decide +kernel
theorem dX12_boxOf_0 : decode cX12_boxOf 0 = .ok (.iconst (-1), 1) := by decide +kernel
theorem dX12_boxOf_1 : decode cX12_boxOf 1 = .ok (.istore_n 2, 1) := by decide +kernel
theorem dX12_boxOf_2 : decode cX12_boxOf 2 = .ok (.iconst 0, 1) := by decide +kernel
theorem dX12_boxOf_3 : decode cX12_boxOf 3 = .ok (.istore_n 3, 1) := by decide +kernel
theorem dX12_boxOf_4 : decode cX12_boxOf 4 = .ok (.iload_n 3, 1) := by decide +kernel
theorem dX12_boxOf_5 : decode cX12_boxOf 5 = .ok (.aload_n 0, 1) := by decide +kernel
theorem dX12_boxOf_6 : decode cX12_boxOf 6 = .ok (.getfield 13, 3) := by decide +kernel
theorem dX12_boxOf_9 : decode cX12_boxOf 9 = .ok (.iconst 0, 1) := by decide +kernel
theorem dX12_boxOf_10 : decode cX12_boxOf 10 = .ok (.iaload, 1) := by decide +kernel
theorem dX12_boxOf_11 : decode cX12_boxOf 11 = .ok (.if_icmp .ge 28, 3) := by decide +kernel
theorem dX12_boxOf_14 : decode cX12_boxOf 14 = .ok (.aload_n 0, 1) := by decide +kernel
theorem dX12_boxOf_15 : decode cX12_boxOf 15 = .ok (.getfield 13, 3) := by decide +kernel
theorem dX12_boxOf_18 : decode cX12_boxOf 18 = .ok (.bipush 68, 2) := by decide +kernel
theorem dX12_boxOf_20 : decode cX12_boxOf 20 = .ok (.iload_n 3, 1) := by decide +kernel
theorem dX12_boxOf_21 : decode cX12_boxOf 21 = .ok (.iadd, 1) := by decide +kernel
theorem dX12_boxOf_22 : decode cX12_boxOf 22 = .ok (.iaload, 1) := by decide +kernel
theorem dX12_boxOf_23 : decode cX12_boxOf 23 = .ok (.iload_n 1, 1) := by decide +kernel
theorem dX12_boxOf_24 : decode cX12_boxOf 24 = .ok (.if_icmp .ne 7, 3) := by decide +kernel
theorem dX12_boxOf_27 : decode cX12_boxOf 27 = .ok (.iload_n 3, 1) := by decide +kernel
theorem dX12_boxOf_28 : decode cX12_boxOf 28 = .ok (.goto 4, 3) := by decide +kernel
theorem dX12_boxOf_31 : decode cX12_boxOf 31 = .ok (.iload_n 2, 1) := by decide +kernel
theorem dX12_boxOf_32 : decode cX12_boxOf 32 = .ok (.istore_n 2, 1) := by decide +kernel
theorem dX12_boxOf_33 : decode cX12_boxOf 33 = .ok (.iinc 3 1, 3) := by decide +kernel
theorem dX12_boxOf_36 : decode cX12_boxOf 36 = .ok (.goto (-32), 3) := by decide +kernel
theorem dX12_boxOf_39 : decode cX12_boxOf 39 = .ok (.iload_n 2, 1) := by decide +kernel
theorem dX12_boxOf_40 : decode cX12_boxOf 40 = .ok (.ireturn, 1) := by decide +kernel
theorem dX12_couples_0 : decode cX12_couples 0 = .ok (.iconst 0, 1) := by decide +kernel
theorem dX12_couples_1 : decode cX12_couples 1 = .ok (.istore_n 1, 1) := by decide +kernel
theorem dX12_couples_2 : decode cX12_couples 2 = .ok (.iconst 0, 1) := by decide +kernel
theorem dX12_couples_3 : decode cX12_couples 3 = .ok (.istore_n 2, 1) := by decide +kernel
theorem dX12_couples_4 : decode cX12_couples 4 = .ok (.iload_n 2, 1) := by decide +kernel
theorem dX12_couples_5 : decode cX12_couples 5 = .ok (.aload_n 0, 1) := by decide +kernel
theorem dX12_couples_6 : decode cX12_couples 6 = .ok (.getfield 13, 3) := by decide +kernel
theorem dX12_couples_9 : decode cX12_couples 9 = .ok (.iconst 0, 1) := by decide +kernel
theorem dX12_couples_10 : decode cX12_couples 10 = .ok (.iaload, 1) := by decide +kernel
theorem dX12_couples_11 : decode cX12_couples 11 = .ok (.if_icmp .ge 30, 3) := by decide +kernel
theorem dX12_couples_14 : decode cX12_couples 14 = .ok (.iload_n 1, 1) := by decide +kernel
theorem dX12_couples_15 : decode cX12_couples 15 = .ok (.aload_n 0, 1) := by decide +kernel
theorem dX12_couples_16 : decode cX12_couples 16 = .ok (.getfield 13, 3) := by decide +kernel
theorem dX12_couples_19 : decode cX12_couples 19 = .ok (.bipush 68, 2) := by decide +kernel
theorem dX12_couples_21 : decode cX12_couples 21 = .ok (.iload_n 2, 1) := by decide +kernel
theorem dX12_couples_22 : decode cX12_couples 22 = .ok (.iadd, 1) := by decide +kernel
theorem dX12_couples_23 : decode cX12_couples 23 = .ok (.iaload, 1) := by decide +kernel
theorem dX12_couples_24 : decode cX12_couples 24 = .ok (.iconst (-1), 1) := by decide +kernel
theorem dX12_couples_25 : decode cX12_couples 25 = .ok (.if_icmp .ne 7, 3) := by decide +kernel
theorem dX12_couples_28 : decode cX12_couples 28 = .ok (.iconst 0, 1) := by decide +kernel
theorem dX12_couples_29 : decode cX12_couples 29 = .ok (.goto 4, 3) := by decide +kernel
theorem dX12_couples_32 : decode cX12_couples 32 = .ok (.iconst 1, 1) := by decide +kernel
theorem dX12_couples_33 : decode cX12_couples 33 = .ok (.iadd, 1) := by decide +kernel
theorem dX12_couples_34 : decode cX12_couples 34 = .ok (.istore_n 1, 1) := by decide +kernel
theorem dX12_couples_35 : decode cX12_couples 35 = .ok (.iinc 2 1, 3) := by decide +kernel
theorem dX12_couples_38 : decode cX12_couples 38 = .ok (.goto (-34), 3) := by decide +kernel
theorem dX12_couples_41 : decode cX12_couples 41 = .ok (.iload_n 1, 1) := by decide +kernel
theorem dX12_couples_42 : decode cX12_couples 42 = .ok (.ireturn, 1) := by decide +kernel
theorem dX12_box_0 : decode cX12_box 0 = .ok (.aload_n 0, 1) := by decide +kernel
theorem dX12_box_1 : decode cX12_box 1 = .ok (.iconst 0, 1) := by decide +kernel
theorem dX12_box_2 : decode cX12_box 2 = .ok (.putfield 175, 3) := by decide +kernel
theorem dX12_box_5 : decode cX12_box 5 = .ok (.iload_n 1, 1) := by decide +kernel
theorem dX12_box_6 : decode cX12_box 6 = .ok (.i2l, 1) := by decide +kernel
theorem dX12_box_7 : decode cX12_box 7 = .ok (.lconst 0, 1) := by decide +kernel
theorem dX12_box_8 : decode cX12_box 8 = .ok (.ldc2_w 211, 3) := by decide +kernel
theorem dX12_box_11 : decode cX12_box 11 = .ok (.invokestatic 195, 3) := by decide +kernel
theorem dX12_box_14 : decode cX12_box 14 = .ok (.ifCond .ne 9, 3) := by decide +kernel
theorem dX12_box_17 : decode cX12_box 17 = .ok (.aload_n 0, 1) := by decide +kernel
theorem dX12_box_18 : decode cX12_box 18 = .ok (.iconst (-1), 1) := by decide +kernel
theorem dX12_box_19 : decode cX12_box 19 = .ok (.invokevirtual 184, 3) := by decide +kernel
theorem dX12_box_22 : decode cX12_box 22 = .ok (.ireturn, 1) := by decide +kernel
theorem dX12_box_23 : decode cX12_box 23 = .ok (.aload_n 0, 1) := by decide +kernel
theorem dX12_box_24 : decode cX12_box 24 = .ok (.getfield 13, 3) := by decide +kernel
theorem dX12_box_27 : decode cX12_box 27 = .ok (.iconst 0, 1) := by decide +kernel
theorem dX12_box_28 : decode cX12_box 28 = .ok (.iaload, 1) := by decide +kernel
theorem dX12_box_29 : decode cX12_box 29 = .ok (.istore_n 2, 1) := by decide +kernel
theorem dX12_box_30 : decode cX12_box 30 = .ok (.iload_n 2, 1) := by decide +kernel
theorem dX12_box_31 : decode cX12_box 31 = .ok (.bipush 6, 2) := by decide +kernel
theorem dX12_box_33 : decode cX12_box 33 = .ok (.if_icmp .ne 10, 3) := by decide +kernel
theorem dX12_box_36 : decode cX12_box 36 = .ok (.aload_n 0, 1) := by decide +kernel
theorem dX12_box_37 : decode cX12_box 37 = .ok (.bipush (-5), 2) := by decide +kernel
theorem dX12_box_39 : decode cX12_box 39 = .ok (.invokevirtual 184, 3) := by decide +kernel
theorem dX12_box_42 : decode cX12_box 42 = .ok (.ireturn, 1) := by decide +kernel
theorem dX12_box_43 : decode cX12_box 43 = .ok (.iconst 0, 1) := by decide +kernel
theorem dX12_box_44 : decode cX12_box 44 = .ok (.istore_n 3, 1) := by decide +kernel
theorem dX12_box_45 : decode cX12_box 45 = .ok (.iload_n 3, 1) := by decide +kernel
theorem dX12_box_46 : decode cX12_box 46 = .ok (.bipush 8, 2) := by decide +kernel
theorem dX12_box_48 : decode cX12_box 48 = .ok (.if_icmp .ge 24, 3) := by decide +kernel
theorem dX12_box_51 : decode cX12_box 51 = .ok (.aload_n 0, 1) := by decide +kernel
theorem dX12_box_52 : decode cX12_box 52 = .ok (.getfield 13, 3) := by decide +kernel
theorem dX12_box_55 : decode cX12_box 55 = .ok (.bipush 8, 2) := by decide +kernel
theorem dX12_box_57 : decode cX12_box 57 = .ok (.bipush 8, 2) := by decide +kernel
theorem dX12_box_59 : decode cX12_box 59 = .ok (.iload_n 2, 1) := by decide +kernel
theorem dX12_box_60 : decode cX12_box 60 = .ok (.imul, 1) := by decide +kernel
theorem dX12_box_61 : decode cX12_box 61 = .ok (.iadd, 1) := by decide +kernel
theorem dX12_box_62 : decode cX12_box 62 = .ok (.iload_n 3, 1) := by decide +kernel
theorem dX12_box_63 : decode cX12_box 63 = .ok (.iadd, 1) := by decide +kernel
theorem dX12_box_64 : decode cX12_box 64 = .ok (.iconst 0, 1) := by decide +kernel
theorem dX12_box_65 : decode cX12_box 65 = .ok (.iastore, 1) := by decide +kernel
theorem dX12_box_66 : decode cX12_box 66 = .ok (.iinc 3 1, 3) := by decide +kernel
theorem dX12_box_69 : decode cX12_box 69 = .ok (.goto (-24), 3) := by decide +kernel
theorem dX12_box_72 : decode cX12_box 72 = .ok (.aload_n 0, 1) := by decide +kernel
theorem dX12_box_73 : decode cX12_box 73 = .ok (.getfield 13, 3) := by decide +kernel
theorem dX12_box_76 : decode cX12_box 76 = .ok (.bipush 56, 2) := by decide +kernel
theorem dX12_box_78 : decode cX12_box 78 = .ok (.iload_n 2, 1) := by decide +kernel
theorem dX12_box_79 : decode cX12_box 79 = .ok (.iadd, 1) := by decide +kernel
theorem dX12_box_80 : decode cX12_box 80 = .ok (.iconst 0, 1) := by decide +kernel
theorem dX12_box_81 : decode cX12_box 81 = .ok (.iastore, 1) := by decide +kernel
theorem dX12_box_82 : decode cX12_box 82 = .ok (.aload_n 0, 1) := by decide +kernel
theorem dX12_box_83 : decode cX12_box 83 = .ok (.getfield 13, 3) := by decide +kernel
theorem dX12_box_86 : decode cX12_box 86 = .ok (.bipush 62, 2) := by decide +kernel
theorem dX12_box_88 : decode cX12_box 88 = .ok (.iload_n 2, 1) := by decide +kernel
theorem dX12_box_89 : decode cX12_box 89 = .ok (.iadd, 1) := by decide +kernel
theorem dX12_box_90 : decode cX12_box 90 = .ok (.iload_n 1, 1) := by decide +kernel
theorem dX12_box_91 : decode cX12_box 91 = .ok (.iastore, 1) := by decide +kernel
theorem dX12_box_92 : decode cX12_box 92 = .ok (.aload_n 0, 1) := by decide +kernel
theorem dX12_box_93 : decode cX12_box 93 = .ok (.getfield 13, 3) := by decide +kernel
theorem dX12_box_96 : decode cX12_box 96 = .ok (.bipush 68, 2) := by decide +kernel
theorem dX12_box_98 : decode cX12_box 98 = .ok (.iload_n 2, 1) := by decide +kernel
theorem dX12_box_99 : decode cX12_box 99 = .ok (.iadd, 1) := by decide +kernel
theorem dX12_box_100 : decode cX12_box 100 = .ok (.iconst (-1), 1) := by decide +kernel
theorem dX12_box_101 : decode cX12_box 101 = .ok (.iastore, 1) := by decide +kernel
theorem dX12_box_102 : decode cX12_box 102 = .ok (.aload_n 0, 1) := by decide +kernel
theorem dX12_box_103 : decode cX12_box 103 = .ok (.getfield 13, 3) := by decide +kernel
theorem dX12_box_106 : decode cX12_box 106 = .ok (.bipush 74, 2) := by decide +kernel
theorem dX12_box_108 : decode cX12_box 108 = .ok (.iload_n 2, 1) := by decide +kernel
theorem dX12_box_109 : decode cX12_box 109 = .ok (.iadd, 1) := by decide +kernel
theorem dX12_box_110 : decode cX12_box 110 = .ok (.iconst 0, 1) := by decide +kernel
theorem dX12_box_111 : decode cX12_box 111 = .ok (.iastore, 1) := by decide +kernel
theorem dX12_box_112 : decode cX12_box 112 = .ok (.aload_n 0, 1) := by decide +kernel
theorem dX12_box_113 : decode cX12_box 113 = .ok (.getfield 13, 3) := by decide +kernel
theorem dX12_box_116 : decode cX12_box 116 = .ok (.iconst 0, 1) := by decide +kernel
theorem dX12_box_117 : decode cX12_box 117 = .ok (.dup2, 1) := by decide +kernel
theorem dX12_box_118 : decode cX12_box 118 = .ok (.iaload, 1) := by decide +kernel
theorem dX12_box_119 : decode cX12_box 119 = .ok (.iconst 1, 1) := by decide +kernel
theorem dX12_box_120 : decode cX12_box 120 = .ok (.iadd, 1) := by decide +kernel
theorem dX12_box_121 : decode cX12_box 121 = .ok (.iastore, 1) := by decide +kernel
theorem dX12_box_122 : decode cX12_box 122 = .ok (.aload_n 0, 1) := by decide +kernel
theorem dX12_box_123 : decode cX12_box 123 = .ok (.iload_n 2, 1) := by decide +kernel
theorem dX12_box_124 : decode cX12_box 124 = .ok (.invokevirtual 199, 3) := by decide +kernel
theorem dX12_box_127 : decode cX12_box 127 = .ok (.ireturn, 1) := by decide +kernel
theorem dX12_of_0 : decode cX12_of 0 = .ok (.aload_n 0, 1) := by decide +kernel
theorem dX12_of_1 : decode cX12_of 1 = .ok (.iconst 0, 1) := by decide +kernel
theorem dX12_of_2 : decode cX12_of 2 = .ok (.putfield 175, 3) := by decide +kernel
theorem dX12_of_5 : decode cX12_of 5 = .ok (.aload_n 0, 1) := by decide +kernel
theorem dX12_of_6 : decode cX12_of 6 = .ok (.iload_n 1, 1) := by decide +kernel
theorem dX12_of_7 : decode cX12_of 7 = .ok (.invokevirtual 213, 3) := by decide +kernel
theorem dX12_of_10 : decode cX12_of 10 = .ok (.ifCond .eq 15, 3) := by decide +kernel
theorem dX12_of_13 : decode cX12_of 13 = .ok (.iload_n 2, 1) := by decide +kernel
theorem dX12_of_14 : decode cX12_of 14 = .ok (.i2l, 1) := by decide +kernel
theorem dX12_of_15 : decode cX12_of 15 = .ok (.lconst 0, 1) := by decide +kernel
theorem dX12_of_16 : decode cX12_of 16 = .ok (.ldc2_w 217, 3) := by decide +kernel
theorem dX12_of_19 : decode cX12_of 19 = .ok (.invokestatic 195, 3) := by decide +kernel
theorem dX12_of_22 : decode cX12_of 22 = .ok (.ifCond .ne 5, 3) := by decide +kernel
theorem dX12_of_25 : decode cX12_of 25 = .ok (.iconst (-1), 1) := by decide +kernel
theorem dX12_of_26 : decode cX12_of 26 = .ok (.ireturn, 1) := by decide +kernel
theorem dX12_of_27 : decode cX12_of 27 = .ok (.iload_n 2, 1) := by decide +kernel
theorem dX12_of_28 : decode cX12_of 28 = .ok (.tableswitch 102 0 6 #[44, 54, 60, 70, 80, 90, 96], 44) := by decide +kernel
theorem dX12_of_72 : decode cX12_of 72 = .ok (.aload_n 0, 1) := by decide +kernel
theorem dX12_of_73 : decode cX12_of 73 = .ok (.getfield 13, 3) := by decide +kernel
theorem dX12_of_76 : decode cX12_of 76 = .ok (.bipush 62, 2) := by decide +kernel
theorem dX12_of_78 : decode cX12_of 78 = .ok (.iload_n 1, 1) := by decide +kernel
theorem dX12_of_79 : decode cX12_of 79 = .ok (.iadd, 1) := by decide +kernel
theorem dX12_of_80 : decode cX12_of 80 = .ok (.iaload, 1) := by decide +kernel
theorem dX12_of_81 : decode cX12_of 81 = .ok (.ireturn, 1) := by decide +kernel
theorem dX12_of_82 : decode cX12_of 82 = .ok (.aload_n 0, 1) := by decide +kernel
theorem dX12_of_83 : decode cX12_of 83 = .ok (.iload_n 1, 1) := by decide +kernel
theorem dX12_of_84 : decode cX12_of 84 = .ok (.invokevirtual 219, 3) := by decide +kernel
theorem dX12_of_87 : decode cX12_of 87 = .ok (.ireturn, 1) := by decide +kernel
theorem dX12_of_88 : decode cX12_of 88 = .ok (.aload_n 0, 1) := by decide +kernel
theorem dX12_of_89 : decode cX12_of 89 = .ok (.getfield 13, 3) := by decide +kernel
theorem dX12_of_92 : decode cX12_of 92 = .ok (.bipush 56, 2) := by decide +kernel
theorem dX12_of_94 : decode cX12_of 94 = .ok (.iload_n 1, 1) := by decide +kernel
theorem dX12_of_95 : decode cX12_of 95 = .ok (.iadd, 1) := by decide +kernel
theorem dX12_of_96 : decode cX12_of 96 = .ok (.iaload, 1) := by decide +kernel
theorem dX12_of_97 : decode cX12_of 97 = .ok (.ireturn, 1) := by decide +kernel
theorem dX12_of_98 : decode cX12_of 98 = .ok (.aload_n 0, 1) := by decide +kernel
theorem dX12_of_99 : decode cX12_of 99 = .ok (.getfield 13, 3) := by decide +kernel
theorem dX12_of_102 : decode cX12_of 102 = .ok (.bipush 68, 2) := by decide +kernel
theorem dX12_of_104 : decode cX12_of 104 = .ok (.iload_n 1, 1) := by decide +kernel
theorem dX12_of_105 : decode cX12_of 105 = .ok (.iadd, 1) := by decide +kernel
theorem dX12_of_106 : decode cX12_of 106 = .ok (.iaload, 1) := by decide +kernel
theorem dX12_of_107 : decode cX12_of 107 = .ok (.ireturn, 1) := by decide +kernel
theorem dX12_of_108 : decode cX12_of 108 = .ok (.aload_n 0, 1) := by decide +kernel
theorem dX12_of_109 : decode cX12_of 109 = .ok (.getfield 13, 3) := by decide +kernel
theorem dX12_of_112 : decode cX12_of 112 = .ok (.bipush 74, 2) := by decide +kernel
theorem dX12_of_114 : decode cX12_of 114 = .ok (.iload_n 1, 1) := by decide +kernel
theorem dX12_of_115 : decode cX12_of 115 = .ok (.iadd, 1) := by decide +kernel
theorem dX12_of_116 : decode cX12_of 116 = .ok (.iaload, 1) := by decide +kernel
theorem dX12_of_117 : decode cX12_of 117 = .ok (.ireturn, 1) := by decide +kernel
theorem dX12_of_118 : decode cX12_of 118 = .ok (.aload_n 0, 1) := by decide +kernel
theorem dX12_of_119 : decode cX12_of 119 = .ok (.iload_n 1, 1) := by decide +kernel
theorem dX12_of_120 : decode cX12_of 120 = .ok (.invokevirtual 222, 3) := by decide +kernel
theorem dX12_of_123 : decode cX12_of 123 = .ok (.ireturn, 1) := by decide +kernel
theorem dX12_of_124 : decode cX12_of 124 = .ok (.aload_n 0, 1) := by decide +kernel
theorem dX12_of_125 : decode cX12_of 125 = .ok (.iload_n 1, 1) := by decide +kernel
theorem dX12_of_126 : decode cX12_of 126 = .ok (.invokevirtual 225, 3) := by decide +kernel
theorem dX12_of_129 : decode cX12_of 129 = .ok (.ireturn, 1) := by decide +kernel
theorem dX12_of_130 : decode cX12_of 130 = .ok (.aload_n 0, 1) := by decide +kernel
theorem dX12_of_131 : decode cX12_of 131 = .ok (.getfield 13, 3) := by decide +kernel
theorem dX12_of_134 : decode cX12_of 134 = .ok (.bipush 8, 2) := by decide +kernel
theorem dX12_of_136 : decode cX12_of 136 = .ok (.bipush 8, 2) := by decide +kernel
theorem dX12_of_138 : decode cX12_of 138 = .ok (.iload_n 1, 1) := by decide +kernel
theorem dX12_of_139 : decode cX12_of 139 = .ok (.imul, 1) := by decide +kernel
theorem dX12_of_140 : decode cX12_of 140 = .ok (.iadd, 1) := by decide +kernel
theorem dX12_of_141 : decode cX12_of 141 = .ok (.iload_n 2, 1) := by decide +kernel
theorem dX12_of_142 : decode cX12_of 142 = .ok (.iadd, 1) := by decide +kernel
theorem dX12_of_143 : decode cX12_of 143 = .ok (.bipush 7, 2) := by decide +kernel
theorem dX12_of_145 : decode cX12_of 145 = .ok (.isub, 1) := by decide +kernel
theorem dX12_of_146 : decode cX12_of 146 = .ok (.iaload, 1) := by decide +kernel
theorem dX12_of_147 : decode cX12_of 147 = .ok (.ireturn, 1) := by decide +kernel
theorem dX12_pins_0 : decode cX12_pins 0 = .ok (.aload_n 0, 1) := by decide +kernel
theorem dX12_pins_1 : decode cX12_pins 1 = .ok (.iconst 0, 1) := by decide +kernel
theorem dX12_pins_2 : decode cX12_pins 2 = .ok (.putfield 175, 3) := by decide +kernel
theorem dX12_pins_5 : decode cX12_pins 5 = .ok (.iload_n 2, 1) := by decide +kernel
theorem dX12_pins_6 : decode cX12_pins 6 = .ok (.invokestatic 228, 3) := by decide +kernel
theorem dX12_pins_9 : decode cX12_pins 9 = .ok (.ifCond .eq 15, 3) := by decide +kernel
theorem dX12_pins_12 : decode cX12_pins 12 = .ok (.iload_n 3, 1) := by decide +kernel
theorem dX12_pins_13 : decode cX12_pins 13 = .ok (.i2l, 1) := by decide +kernel
theorem dX12_pins_14 : decode cX12_pins 14 = .ok (.lconst 0, 1) := by decide +kernel
theorem dX12_pins_15 : decode cX12_pins 15 = .ok (.ldc2_w 231, 3) := by decide +kernel
theorem dX12_pins_18 : decode cX12_pins 18 = .ok (.invokestatic 195, 3) := by decide +kernel
theorem dX12_pins_21 : decode cX12_pins 21 = .ok (.ifCond .ne 9, 3) := by decide +kernel
theorem dX12_pins_24 : decode cX12_pins 24 = .ok (.aload_n 0, 1) := by decide +kernel
theorem dX12_pins_25 : decode cX12_pins 25 = .ok (.iconst (-1), 1) := by decide +kernel
theorem dX12_pins_26 : decode cX12_pins 26 = .ok (.invokevirtual 184, 3) := by decide +kernel
theorem dX12_pins_29 : decode cX12_pins 29 = .ok (.ireturn, 1) := by decide +kernel
theorem dX12_pins_30 : decode cX12_pins 30 = .ok (.aload_n 0, 1) := by decide +kernel
theorem dX12_pins_31 : decode cX12_pins 31 = .ok (.iload_n 1, 1) := by decide +kernel
theorem dX12_pins_32 : decode cX12_pins 32 = .ok (.invokevirtual 213, 3) := by decide +kernel
theorem dX12_pins_35 : decode cX12_pins 35 = .ok (.ifCond .ne 10, 3) := by decide +kernel
theorem dX12_pins_38 : decode cX12_pins 38 = .ok (.aload_n 0, 1) := by decide +kernel
theorem dX12_pins_39 : decode cX12_pins 39 = .ok (.bipush (-2), 2) := by decide +kernel
theorem dX12_pins_41 : decode cX12_pins 41 = .ok (.invokevirtual 184, 3) := by decide +kernel
theorem dX12_pins_44 : decode cX12_pins 44 = .ok (.ireturn, 1) := by decide +kernel
theorem dX12_pins_45 : decode cX12_pins 45 = .ok (.aload_n 0, 1) := by decide +kernel
theorem dX12_pins_46 : decode cX12_pins 46 = .ok (.iconst 0, 1) := by decide +kernel
theorem dX12_pins_47 : decode cX12_pins 47 = .ok (.putfield 181, 3) := by decide +kernel
theorem dX12_pins_50 : decode cX12_pins 50 = .ok (.aload_n 0, 1) := by decide +kernel
theorem dX12_pins_51 : decode cX12_pins 51 = .ok (.bipush 8, 2) := by decide +kernel
theorem dX12_pins_53 : decode cX12_pins 53 = .ok (.bipush 8, 2) := by decide +kernel
theorem dX12_pins_55 : decode cX12_pins 55 = .ok (.iload_n 1, 1) := by decide +kernel
theorem dX12_pins_56 : decode cX12_pins 56 = .ok (.imul, 1) := by decide +kernel
theorem dX12_pins_57 : decode cX12_pins 57 = .ok (.iadd, 1) := by decide +kernel
theorem dX12_pins_58 : decode cX12_pins 58 = .ok (.iload_n 2, 1) := by decide +kernel
theorem dX12_pins_59 : decode cX12_pins 59 = .ok (.iadd, 1) := by decide +kernel
theorem dX12_pins_60 : decode cX12_pins 60 = .ok (.iload_n 3, 1) := by decide +kernel
theorem dX12_pins_61 : decode cX12_pins 61 = .ok (.invokevirtual 233, 3) := by decide +kernel
theorem dX12_pins_64 : decode cX12_pins 64 = .ok (.ireturn, 1) := by decide +kernel
theorem dX12_suitor_0 : decode cX12_suitor 0 = .ok (.aload_n 0, 1) := by decide +kernel
theorem dX12_suitor_1 : decode cX12_suitor 1 = .ok (.iconst 0, 1) := by decide +kernel
theorem dX12_suitor_2 : decode cX12_suitor 2 = .ok (.putfield 175, 3) := by decide +kernel
theorem dX12_suitor_5 : decode cX12_suitor 5 = .ok (.iload_n 1, 1) := by decide +kernel
theorem dX12_suitor_6 : decode cX12_suitor 6 = .ok (.invokestatic 236, 3) := by decide +kernel
theorem dX12_suitor_9 : decode cX12_suitor 9 = .ok (.ifCond .eq 15, 3) := by decide +kernel
theorem dX12_suitor_12 : decode cX12_suitor 12 = .ok (.iload_n 2, 1) := by decide +kernel
theorem dX12_suitor_13 : decode cX12_suitor 13 = .ok (.i2l, 1) := by decide +kernel
theorem dX12_suitor_14 : decode cX12_suitor 14 = .ok (.lconst 0, 1) := by decide +kernel
theorem dX12_suitor_15 : decode cX12_suitor 15 = .ok (.ldc2_w 239, 3) := by decide +kernel
theorem dX12_suitor_18 : decode cX12_suitor 18 = .ok (.invokestatic 195, 3) := by decide +kernel
theorem dX12_suitor_21 : decode cX12_suitor 21 = .ok (.ifCond .ne 9, 3) := by decide +kernel
theorem dX12_suitor_24 : decode cX12_suitor 24 = .ok (.aload_n 0, 1) := by decide +kernel
theorem dX12_suitor_25 : decode cX12_suitor 25 = .ok (.iconst (-1), 1) := by decide +kernel
theorem dX12_suitor_26 : decode cX12_suitor 26 = .ok (.invokevirtual 184, 3) := by decide +kernel
theorem dX12_suitor_29 : decode cX12_suitor 29 = .ok (.ireturn, 1) := by decide +kernel
theorem dX12_suitor_30 : decode cX12_suitor 30 = .ok (.aload_n 0, 1) := by decide +kernel
theorem dX12_suitor_31 : decode cX12_suitor 31 = .ok (.getfield 13, 3) := by decide +kernel
theorem dX12_suitor_34 : decode cX12_suitor 34 = .ok (.iconst 1, 1) := by decide +kernel
theorem dX12_suitor_35 : decode cX12_suitor 35 = .ok (.iaload, 1) := by decide +kernel
theorem dX12_suitor_36 : decode cX12_suitor 36 = .ok (.istore_n 3, 1) := by decide +kernel
theorem dX12_suitor_37 : decode cX12_suitor 37 = .ok (.iload_n 3, 1) := by decide +kernel
theorem dX12_suitor_38 : decode cX12_suitor 38 = .ok (.bipush 6, 2) := by decide +kernel
theorem dX12_suitor_40 : decode cX12_suitor 40 = .ok (.if_icmp .ne 10, 3) := by decide +kernel
theorem dX12_suitor_43 : decode cX12_suitor 43 = .ok (.aload_n 0, 1) := by decide +kernel
theorem dX12_suitor_44 : decode cX12_suitor 44 = .ok (.bipush (-5), 2) := by decide +kernel
theorem dX12_suitor_46 : decode cX12_suitor 46 = .ok (.invokevirtual 184, 3) := by decide +kernel
theorem dX12_suitor_49 : decode cX12_suitor 49 = .ok (.ireturn, 1) := by decide +kernel
theorem dX12_suitor_50 : decode cX12_suitor 50 = .ok (.aload_n 0, 1) := by decide +kernel
theorem dX12_suitor_51 : decode cX12_suitor 51 = .ok (.getfield 13, 3) := by decide +kernel
theorem dX12_suitor_54 : decode cX12_suitor 54 = .ok (.bipush 80, 2) := by decide +kernel
theorem dX12_suitor_56 : decode cX12_suitor 56 = .ok (.iload_n 3, 1) := by decide +kernel
theorem dX12_suitor_57 : decode cX12_suitor 57 = .ok (.iadd, 1) := by decide +kernel
theorem dX12_suitor_58 : decode cX12_suitor 58 = .ok (.iload_n 1, 1) := by decide +kernel
theorem dX12_suitor_59 : decode cX12_suitor 59 = .ok (.iastore, 1) := by decide +kernel
theorem dX12_suitor_60 : decode cX12_suitor 60 = .ok (.aload_n 0, 1) := by decide +kernel
theorem dX12_suitor_61 : decode cX12_suitor 61 = .ok (.getfield 13, 3) := by decide +kernel
theorem dX12_suitor_64 : decode cX12_suitor 64 = .ok (.bipush 86, 2) := by decide +kernel
theorem dX12_suitor_66 : decode cX12_suitor 66 = .ok (.iload_n 3, 1) := by decide +kernel
theorem dX12_suitor_67 : decode cX12_suitor 67 = .ok (.iadd, 1) := by decide +kernel
theorem dX12_suitor_68 : decode cX12_suitor 68 = .ok (.iload_n 2, 1) := by decide +kernel
theorem dX12_suitor_69 : decode cX12_suitor 69 = .ok (.iastore, 1) := by decide +kernel
theorem dX12_suitor_70 : decode cX12_suitor 70 = .ok (.aload_n 0, 1) := by decide +kernel
theorem dX12_suitor_71 : decode cX12_suitor 71 = .ok (.getfield 13, 3) := by decide +kernel
theorem dX12_suitor_74 : decode cX12_suitor 74 = .ok (.iconst 1, 1) := by decide +kernel
theorem dX12_suitor_75 : decode cX12_suitor 75 = .ok (.dup2, 1) := by decide +kernel
theorem dX12_suitor_76 : decode cX12_suitor 76 = .ok (.iaload, 1) := by decide +kernel
theorem dX12_suitor_77 : decode cX12_suitor 77 = .ok (.iconst 1, 1) := by decide +kernel
theorem dX12_suitor_78 : decode cX12_suitor 78 = .ok (.iadd, 1) := by decide +kernel
theorem dX12_suitor_79 : decode cX12_suitor 79 = .ok (.iastore, 1) := by decide +kernel
theorem dX12_suitor_80 : decode cX12_suitor 80 = .ok (.aload_n 0, 1) := by decide +kernel
theorem dX12_suitor_81 : decode cX12_suitor 81 = .ok (.iload_n 3, 1) := by decide +kernel
theorem dX12_suitor_82 : decode cX12_suitor 82 = .ok (.invokevirtual 199, 3) := by decide +kernel
theorem dX12_suitor_85 : decode cX12_suitor 85 = .ok (.ireturn, 1) := by decide +kernel
theorem dX12_at_0 : decode cX12_at 0 = .ok (.aload_n 0, 1) := by decide +kernel
theorem dX12_at_1 : decode cX12_at 1 = .ok (.iconst 0, 1) := by decide +kernel
theorem dX12_at_2 : decode cX12_at 2 = .ok (.putfield 175, 3) := by decide +kernel
theorem dX12_at_5 : decode cX12_at 5 = .ok (.aload_n 0, 1) := by decide +kernel
theorem dX12_at_6 : decode cX12_at 6 = .ok (.iload_n 1, 1) := by decide +kernel
theorem dX12_at_7 : decode cX12_at 7 = .ok (.invokevirtual 241, 3) := by decide +kernel
theorem dX12_at_10 : decode cX12_at 10 = .ok (.ifCond .ne 5, 3) := by decide +kernel
theorem dX12_at_13 : decode cX12_at 13 = .ok (.iconst (-1), 1) := by decide +kernel
theorem dX12_at_14 : decode cX12_at 14 = .ok (.ireturn, 1) := by decide +kernel
theorem dX12_at_15 : decode cX12_at 15 = .ok (.iload_n 2, 1) := by decide +kernel
theorem dX12_at_16 : decode cX12_at 16 = .ok (.tableswitch 54 0 2 #[28, 38, 48], 28) := by decide +kernel
theorem dX12_at_44 : decode cX12_at 44 = .ok (.aload_n 0, 1) := by decide +kernel
theorem dX12_at_45 : decode cX12_at 45 = .ok (.getfield 13, 3) := by decide +kernel
theorem dX12_at_48 : decode cX12_at 48 = .ok (.bipush 80, 2) := by decide +kernel
theorem dX12_at_50 : decode cX12_at 50 = .ok (.iload_n 1, 1) := by decide +kernel
theorem dX12_at_51 : decode cX12_at 51 = .ok (.iadd, 1) := by decide +kernel
theorem dX12_at_52 : decode cX12_at 52 = .ok (.iaload, 1) := by decide +kernel
theorem dX12_at_53 : decode cX12_at 53 = .ok (.ireturn, 1) := by decide +kernel
theorem dX12_at_54 : decode cX12_at 54 = .ok (.aload_n 0, 1) := by decide +kernel
theorem dX12_at_55 : decode cX12_at 55 = .ok (.getfield 13, 3) := by decide +kernel
theorem dX12_at_58 : decode cX12_at 58 = .ok (.bipush 86, 2) := by decide +kernel
theorem dX12_at_60 : decode cX12_at 60 = .ok (.iload_n 1, 1) := by decide +kernel
theorem dX12_at_61 : decode cX12_at 61 = .ok (.iadd, 1) := by decide +kernel
theorem dX12_at_62 : decode cX12_at 62 = .ok (.iaload, 1) := by decide +kernel
theorem dX12_at_63 : decode cX12_at 63 = .ok (.ireturn, 1) := by decide +kernel
theorem dX12_at_64 : decode cX12_at 64 = .ok (.aload_n 0, 1) := by decide +kernel
theorem dX12_at_65 : decode cX12_at 65 = .ok (.iload_n 1, 1) := by decide +kernel
theorem dX12_at_66 : decode cX12_at 66 = .ok (.invokevirtual 244, 3) := by decide +kernel
theorem dX12_at_69 : decode cX12_at 69 = .ok (.ireturn, 1) := by decide +kernel
theorem dX12_at_70 : decode cX12_at 70 = .ok (.iconst (-1), 1) := by decide +kernel
theorem dX12_at_71 : decode cX12_at 71 = .ok (.ireturn, 1) := by decide +kernel
theorem dX12_asks_0 : decode cX12_asks 0 = .ok (.aload_n 0, 1) := by decide +kernel
theorem dX12_asks_1 : decode cX12_asks 1 = .ok (.iconst 0, 1) := by decide +kernel
theorem dX12_asks_2 : decode cX12_asks 2 = .ok (.putfield 175, 3) := by decide +kernel
theorem dX12_asks_5 : decode cX12_asks 5 = .ok (.aload_n 0, 1) := by decide +kernel
theorem dX12_asks_6 : decode cX12_asks 6 = .ok (.iload_n 1, 1) := by decide +kernel
theorem dX12_asks_7 : decode cX12_asks 7 = .ok (.invokevirtual 213, 3) := by decide +kernel
theorem dX12_asks_10 : decode cX12_asks 10 = .ok (.ifCond .eq 11, 3) := by decide +kernel
theorem dX12_asks_13 : decode cX12_asks 13 = .ok (.aload_n 0, 1) := by decide +kernel
theorem dX12_asks_14 : decode cX12_asks 14 = .ok (.iload_n 2, 1) := by decide +kernel
theorem dX12_asks_15 : decode cX12_asks 15 = .ok (.invokevirtual 241, 3) := by decide +kernel
theorem dX12_asks_18 : decode cX12_asks 18 = .ok (.ifCond .ne 5, 3) := by decide +kernel
theorem dX12_asks_21 : decode cX12_asks 21 = .ok (.iconst (-1), 1) := by decide +kernel
theorem dX12_asks_22 : decode cX12_asks 22 = .ok (.ireturn, 1) := by decide +kernel
theorem dX12_asks_23 : decode cX12_asks 23 = .ok (.iload_n 3, 1) := by decide +kernel
theorem dX12_asks_24 : decode cX12_asks 24 = .ok (.tableswitch 57 0 2 #[28, 35, 42], 28) := by decide +kernel
theorem dX12_asks_52 : decode cX12_asks 52 = .ok (.aload_n 0, 1) := by decide +kernel
theorem dX12_asks_53 : decode cX12_asks 53 = .ok (.iload_n 1, 1) := by decide +kernel
theorem dX12_asks_54 : decode cX12_asks 54 = .ok (.iload_n 2, 1) := by decide +kernel
theorem dX12_asks_55 : decode cX12_asks 55 = .ok (.invokevirtual 247, 3) := by decide +kernel
theorem dX12_asks_58 : decode cX12_asks 58 = .ok (.ireturn, 1) := by decide +kernel
theorem dX12_asks_59 : decode cX12_asks 59 = .ok (.aload_n 0, 1) := by decide +kernel
theorem dX12_asks_60 : decode cX12_asks 60 = .ok (.iload_n 1, 1) := by decide +kernel
theorem dX12_asks_61 : decode cX12_asks 61 = .ok (.iload_n 2, 1) := by decide +kernel
theorem dX12_asks_62 : decode cX12_asks 62 = .ok (.invokevirtual 250, 3) := by decide +kernel
theorem dX12_asks_65 : decode cX12_asks 65 = .ok (.ireturn, 1) := by decide +kernel
theorem dX12_asks_66 : decode cX12_asks 66 = .ok (.aload_n 0, 1) := by decide +kernel
theorem dX12_asks_67 : decode cX12_asks 67 = .ok (.iload_n 1, 1) := by decide +kernel
theorem dX12_asks_68 : decode cX12_asks 68 = .ok (.iload_n 2, 1) := by decide +kernel
theorem dX12_asks_69 : decode cX12_asks 69 = .ok (.invokevirtual 253, 3) := by decide +kernel
theorem dX12_asks_72 : decode cX12_asks 72 = .ok (.ifCond .eq 7, 3) := by decide +kernel
theorem dX12_asks_75 : decode cX12_asks 75 = .ok (.iconst 1, 1) := by decide +kernel
theorem dX12_asks_76 : decode cX12_asks 76 = .ok (.goto 4, 3) := by decide +kernel
theorem dX12_asks_79 : decode cX12_asks 79 = .ok (.iconst 0, 1) := by decide +kernel
theorem dX12_asks_80 : decode cX12_asks 80 = .ok (.ireturn, 1) := by decide +kernel
theorem dX12_asks_81 : decode cX12_asks 81 = .ok (.iconst (-1), 1) := by decide +kernel
theorem dX12_asks_82 : decode cX12_asks 82 = .ok (.ireturn, 1) := by decide +kernel
theorem dX12_terms_0 : decode cX12_terms 0 = .ok (.aload_n 0, 1) := by decide +kernel
theorem dX12_terms_1 : decode cX12_terms 1 = .ok (.iconst 0, 1) := by decide +kernel
theorem dX12_terms_2 : decode cX12_terms 2 = .ok (.putfield 175, 3) := by decide +kernel
theorem dX12_terms_5 : decode cX12_terms 5 = .ok (.iload_n 1, 1) := by decide +kernel
theorem dX12_terms_6 : decode cX12_terms 6 = .ok (.ifCond .ne 15, 3) := by decide +kernel
theorem dX12_terms_9 : decode cX12_terms 9 = .ok (.iload_n 2, 1) := by decide +kernel
theorem dX12_terms_10 : decode cX12_terms 10 = .ok (.i2l, 1) := by decide +kernel
theorem dX12_terms_11 : decode cX12_terms 11 = .ok (.lconst 0, 1) := by decide +kernel
theorem dX12_terms_12 : decode cX12_terms 12 = .ok (.ldc2_w 257, 3) := by decide +kernel
theorem dX12_terms_15 : decode cX12_terms 15 = .ok (.invokestatic 195, 3) := by decide +kernel
theorem dX12_terms_18 : decode cX12_terms 18 = .ok (.goto 42, 3) := by decide +kernel
theorem dX12_terms_21 : decode cX12_terms 21 = .ok (.iload_n 1, 1) := by decide +kernel
theorem dX12_terms_22 : decode cX12_terms 22 = .ok (.iconst 1, 1) := by decide +kernel
theorem dX12_terms_23 : decode cX12_terms 23 = .ok (.if_icmp .ne 15, 3) := by decide +kernel
theorem dX12_terms_26 : decode cX12_terms 26 = .ok (.iload_n 2, 1) := by decide +kernel
theorem dX12_terms_27 : decode cX12_terms 27 = .ok (.i2l, 1) := by decide +kernel
theorem dX12_terms_28 : decode cX12_terms 28 = .ok (.lconst 0, 1) := by decide +kernel
theorem dX12_terms_29 : decode cX12_terms 29 = .ok (.ldc2_w 259, 3) := by decide +kernel
theorem dX12_terms_32 : decode cX12_terms 32 = .ok (.invokestatic 195, 3) := by decide +kernel
theorem dX12_terms_35 : decode cX12_terms 35 = .ok (.goto 25, 3) := by decide +kernel
theorem dX12_terms_38 : decode cX12_terms 38 = .ok (.iload_n 1, 1) := by decide +kernel
theorem dX12_terms_39 : decode cX12_terms 39 = .ok (.iconst 2, 1) := by decide +kernel
theorem dX12_terms_40 : decode cX12_terms 40 = .ok (.if_icmp .ne 19, 3) := by decide +kernel
theorem dX12_terms_43 : decode cX12_terms 43 = .ok (.iload_n 2, 1) := by decide +kernel
theorem dX12_terms_44 : decode cX12_terms 44 = .ok (.i2l, 1) := by decide +kernel
theorem dX12_terms_45 : decode cX12_terms 45 = .ok (.lconst 0, 1) := by decide +kernel
theorem dX12_terms_46 : decode cX12_terms 46 = .ok (.ldc2_w 261, 3) := by decide +kernel
theorem dX12_terms_49 : decode cX12_terms 49 = .ok (.invokestatic 195, 3) := by decide +kernel
theorem dX12_terms_52 : decode cX12_terms 52 = .ok (.ifCond .eq 7, 3) := by decide +kernel
theorem dX12_terms_55 : decode cX12_terms 55 = .ok (.iconst 1, 1) := by decide +kernel
theorem dX12_terms_56 : decode cX12_terms 56 = .ok (.goto 4, 3) := by decide +kernel
theorem dX12_terms_59 : decode cX12_terms 59 = .ok (.iconst 0, 1) := by decide +kernel
theorem dX12_terms_60 : decode cX12_terms 60 = .ok (.istore_n 3, 1) := by decide +kernel
theorem dX12_terms_61 : decode cX12_terms 61 = .ok (.iload_n 3, 1) := by decide +kernel
theorem dX12_terms_62 : decode cX12_terms 62 = .ok (.ifCond .ne 9, 3) := by decide +kernel
theorem dX12_terms_65 : decode cX12_terms 65 = .ok (.aload_n 0, 1) := by decide +kernel
theorem dX12_terms_66 : decode cX12_terms 66 = .ok (.iconst (-1), 1) := by decide +kernel
theorem dX12_terms_67 : decode cX12_terms 67 = .ok (.invokevirtual 184, 3) := by decide +kernel
theorem dX12_terms_70 : decode cX12_terms 70 = .ok (.ireturn, 1) := by decide +kernel
theorem dX12_terms_71 : decode cX12_terms 71 = .ok (.aload_n 0, 1) := by decide +kernel
theorem dX12_terms_72 : decode cX12_terms 72 = .ok (.iconst 0, 1) := by decide +kernel
theorem dX12_terms_73 : decode cX12_terms 73 = .ok (.putfield 181, 3) := by decide +kernel
theorem dX12_terms_76 : decode cX12_terms 76 = .ok (.aload_n 0, 1) := by decide +kernel
theorem dX12_terms_77 : decode cX12_terms 77 = .ok (.iconst 5, 1) := by decide +kernel
theorem dX12_terms_78 : decode cX12_terms 78 = .ok (.iload_n 1, 1) := by decide +kernel
theorem dX12_terms_79 : decode cX12_terms 79 = .ok (.iadd, 1) := by decide +kernel
theorem dX12_terms_80 : decode cX12_terms 80 = .ok (.iload_n 2, 1) := by decide +kernel
theorem dX12_terms_81 : decode cX12_terms 81 = .ok (.invokevirtual 233, 3) := by decide +kernel
theorem dX12_terms_84 : decode cX12_terms 84 = .ok (.ireturn, 1) := by decide +kernel
theorem dX12_row_0 : decode cX12_row 0 = .ok (.aload_n 0, 1) := by decide +kernel
theorem dX12_row_1 : decode cX12_row 1 = .ok (.iconst 0, 1) := by decide +kernel
theorem dX12_row_2 : decode cX12_row 2 = .ok (.putfield 175, 3) := by decide +kernel
theorem dX12_row_5 : decode cX12_row 5 = .ok (.aload_n 0, 1) := by decide +kernel
theorem dX12_row_6 : decode cX12_row 6 = .ok (.getfield 263, 3) := by decide +kernel
theorem dX12_row_9 : decode cX12_row 9 = .ok (.istore_n 1, 1) := by decide +kernel
theorem dX12_row_10 : decode cX12_row 10 = .ok (.aload_n 0, 1) := by decide +kernel
theorem dX12_row_11 : decode cX12_row 11 = .ok (.iconst 0, 1) := by decide +kernel
theorem dX12_row_12 : decode cX12_row 12 = .ok (.putfield 263, 3) := by decide +kernel
theorem dX12_row_15 : decode cX12_row 15 = .ok (.iload_n 1, 1) := by decide +kernel
theorem dX12_row_16 : decode cX12_row 16 = .ok (.ifCond .ne 10, 3) := by decide +kernel
theorem dX12_row_19 : decode cX12_row 19 = .ok (.aload_n 0, 1) := by decide +kernel
theorem dX12_row_20 : decode cX12_row 20 = .ok (.bipush (-6), 2) := by decide +kernel
theorem dX12_row_22 : decode cX12_row 22 = .ok (.invokevirtual 184, 3) := by decide +kernel
theorem dX12_row_25 : decode cX12_row 25 = .ok (.ireturn, 1) := by decide +kernel
theorem dX12_row_26 : decode cX12_row 26 = .ok (.aload_n 0, 1) := by decide +kernel
theorem dX12_row_27 : decode cX12_row 27 = .ok (.iconst 0, 1) := by decide +kernel
theorem dX12_row_28 : decode cX12_row 28 = .ok (.putfield 266, 3) := by decide +kernel
theorem dX12_row_31 : decode cX12_row 31 = .ok (.iconst 0, 1) := by decide +kernel
theorem dX12_row_32 : decode cX12_row 32 = .ok (.istore_n 2, 1) := by decide +kernel
theorem dX12_row_33 : decode cX12_row 33 = .ok (.iconst 0, 1) := by decide +kernel
theorem dX12_row_34 : decode cX12_row 34 = .ok (.istore_n 3, 1) := by decide +kernel
theorem dX12_row_35 : decode cX12_row 35 = .ok (.iload_n 3, 1) := by decide +kernel
theorem dX12_row_36 : decode cX12_row 36 = .ok (.iload_n 1, 1) := by decide +kernel
theorem dX12_row_37 : decode cX12_row 37 = .ok (.if_icmp .ge 93, 3) := by decide +kernel
theorem dX12_row_40 : decode cX12_row 40 = .ok (.iload_n 3, 1) := by decide +kernel
theorem dX12_row_41 : decode cX12_row 41 = .ok (.iconst 2, 1) := by decide +kernel
theorem dX12_row_42 : decode cX12_row 42 = .ok (.iadd, 1) := by decide +kernel
theorem dX12_row_43 : decode cX12_row 43 = .ok (.iload_n 1, 1) := by decide +kernel
theorem dX12_row_44 : decode cX12_row 44 = .ok (.if_icmp .ge 70, 3) := by decide +kernel
theorem dX12_row_47 : decode cX12_row 47 = .ok (.aload_n 0, 1) := by decide +kernel
theorem dX12_row_48 : decode cX12_row 48 = .ok (.aload_n 0, 1) := by decide +kernel
theorem dX12_row_49 : decode cX12_row 49 = .ok (.getfield 35, 3) := by decide +kernel
theorem dX12_row_52 : decode cX12_row 52 = .ok (.iload_n 3, 1) := by decide +kernel
theorem dX12_row_53 : decode cX12_row 53 = .ok (.iaload, 1) := by decide +kernel
theorem dX12_row_54 : decode cX12_row 54 = .ok (.invokevirtual 213, 3) := by decide +kernel
theorem dX12_row_57 : decode cX12_row 57 = .ok (.ifCond .eq 57, 3) := by decide +kernel
theorem dX12_row_60 : decode cX12_row 60 = .ok (.aload_n 0, 1) := by decide +kernel
theorem dX12_row_61 : decode cX12_row 61 = .ok (.getfield 35, 3) := by decide +kernel
theorem dX12_row_64 : decode cX12_row 64 = .ok (.iload_n 3, 1) := by decide +kernel
theorem dX12_row_65 : decode cX12_row 65 = .ok (.iconst 1, 1) := by decide +kernel
theorem dX12_row_66 : decode cX12_row 66 = .ok (.iadd, 1) := by decide +kernel
theorem dX12_row_67 : decode cX12_row 67 = .ok (.iaload, 1) := by decide +kernel
theorem dX12_row_68 : decode cX12_row 68 = .ok (.invokestatic 228, 3) := by decide +kernel
theorem dX12_row_71 : decode cX12_row 71 = .ok (.ifCond .eq 43, 3) := by decide +kernel
theorem dX12_row_74 : decode cX12_row 74 = .ok (.aload_n 0, 1) := by decide +kernel
theorem dX12_row_75 : decode cX12_row 75 = .ok (.getfield 13, 3) := by decide +kernel
theorem dX12_row_78 : decode cX12_row 78 = .ok (.bipush 8, 2) := by decide +kernel
theorem dX12_row_80 : decode cX12_row 80 = .ok (.bipush 8, 2) := by decide +kernel
theorem dX12_row_82 : decode cX12_row 82 = .ok (.aload_n 0, 1) := by decide +kernel
theorem dX12_row_83 : decode cX12_row 83 = .ok (.getfield 35, 3) := by decide +kernel
theorem dX12_row_86 : decode cX12_row 86 = .ok (.iload_n 3, 1) := by decide +kernel
theorem dX12_row_87 : decode cX12_row 87 = .ok (.iaload, 1) := by decide +kernel
theorem dX12_row_88 : decode cX12_row 88 = .ok (.imul, 1) := by decide +kernel
theorem dX12_row_89 : decode cX12_row 89 = .ok (.iadd, 1) := by decide +kernel
theorem dX12_row_90 : decode cX12_row 90 = .ok (.aload_n 0, 1) := by decide +kernel
theorem dX12_row_91 : decode cX12_row 91 = .ok (.getfield 35, 3) := by decide +kernel
theorem dX12_row_94 : decode cX12_row 94 = .ok (.iload_n 3, 1) := by decide +kernel
theorem dX12_row_95 : decode cX12_row 95 = .ok (.iconst 1, 1) := by decide +kernel
theorem dX12_row_96 : decode cX12_row 96 = .ok (.iadd, 1) := by decide +kernel
theorem dX12_row_97 : decode cX12_row 97 = .ok (.iaload, 1) := by decide +kernel
theorem dX12_row_98 : decode cX12_row 98 = .ok (.iadd, 1) := by decide +kernel
theorem dX12_row_99 : decode cX12_row 99 = .ok (.aload_n 0, 1) := by decide +kernel
theorem dX12_row_100 : decode cX12_row 100 = .ok (.getfield 35, 3) := by decide +kernel
theorem dX12_row_103 : decode cX12_row 103 = .ok (.iload_n 3, 1) := by decide +kernel
theorem dX12_row_104 : decode cX12_row 104 = .ok (.iconst 2, 1) := by decide +kernel
theorem dX12_row_105 : decode cX12_row 105 = .ok (.iadd, 1) := by decide +kernel
theorem dX12_row_106 : decode cX12_row 106 = .ok (.iaload, 1) := by decide +kernel
theorem dX12_row_107 : decode cX12_row 107 = .ok (.iastore, 1) := by decide +kernel
theorem dX12_row_108 : decode cX12_row 108 = .ok (.iinc 2 1, 3) := by decide +kernel
theorem dX12_row_111 : decode cX12_row 111 = .ok (.goto 13, 3) := by decide +kernel
theorem dX12_row_114 : decode cX12_row 114 = .ok (.aload_n 0, 1) := by decide +kernel
theorem dX12_row_115 : decode cX12_row 115 = .ok (.dup, 1) := by decide +kernel
theorem dX12_row_116 : decode cX12_row 116 = .ok (.getfield 266, 3) := by decide +kernel
theorem dX12_row_119 : decode cX12_row 119 = .ok (.iconst 1, 1) := by decide +kernel
theorem dX12_row_120 : decode cX12_row 120 = .ok (.iadd, 1) := by decide +kernel
theorem dX12_row_121 : decode cX12_row 121 = .ok (.putfield 266, 3) := by decide +kernel
theorem dX12_row_124 : decode cX12_row 124 = .ok (.iinc 3 3, 3) := by decide +kernel
theorem dX12_row_127 : decode cX12_row 127 = .ok (.goto (-92), 3) := by decide +kernel
theorem dX12_row_130 : decode cX12_row 130 = .ok (.aload_n 0, 1) := by decide +kernel
theorem dX12_row_131 : decode cX12_row 131 = .ok (.iload_n 2, 1) := by decide +kernel
theorem dX12_row_132 : decode cX12_row 132 = .ok (.invokevirtual 199, 3) := by decide +kernel
theorem dX12_row_135 : decode cX12_row 135 = .ok (.ireturn, 1) := by decide +kernel
theorem dX12_rust_0 : decode cX12_rust 0 = .ok (.aload_n 0, 1) := by decide +kernel
theorem dX12_rust_1 : decode cX12_rust 1 = .ok (.iconst 0, 1) := by decide +kernel
theorem dX12_rust_2 : decode cX12_rust 2 = .ok (.putfield 175, 3) := by decide +kernel
theorem dX12_rust_5 : decode cX12_rust 5 = .ok (.aload_n 0, 1) := by decide +kernel
theorem dX12_rust_6 : decode cX12_rust 6 = .ok (.getfield 266, 3) := by decide +kernel
theorem dX12_rust_9 : decode cX12_rust 9 = .ok (.ireturn, 1) := by decide +kernel
theorem dX12_four_0 : decode cX12_four 0 = .ok (.bipush 24, 2) := by decide +kernel
theorem dX12_four_2 : decode cX12_four 2 = .ok (.istore_n 2, 1) := by decide +kernel
theorem dX12_four_3 : decode cX12_four 3 = .ok (.iload_n 2, 1) := by decide +kernel
theorem dX12_four_4 : decode cX12_four 4 = .ok (.ifCond .lt 35, 3) := by decide +kernel
theorem dX12_four_7 : decode cX12_four 7 = .ok (.aload_n 0, 1) := by decide +kernel
theorem dX12_four_8 : decode cX12_four 8 = .ok (.getfield 35, 3) := by decide +kernel
theorem dX12_four_11 : decode cX12_four 11 = .ok (.aload_n 0, 1) := by decide +kernel
theorem dX12_four_12 : decode cX12_four 12 = .ok (.getfield 263, 3) := by decide +kernel
theorem dX12_four_15 : decode cX12_four 15 = .ok (.iload_n 1, 1) := by decide +kernel
theorem dX12_four_16 : decode cX12_four 16 = .ok (.iload_n 2, 1) := by decide +kernel
theorem dX12_four_17 : decode cX12_four 17 = .ok (.ishr, 1) := by decide +kernel
theorem dX12_four_18 : decode cX12_four 18 = .ok (.sipush 255, 3) := by decide +kernel
theorem dX12_four_21 : decode cX12_four 21 = .ok (.iand, 1) := by decide +kernel
theorem dX12_four_22 : decode cX12_four 22 = .ok (.iastore, 1) := by decide +kernel
theorem dX12_four_23 : decode cX12_four 23 = .ok (.aload_n 0, 1) := by decide +kernel
theorem dX12_four_24 : decode cX12_four 24 = .ok (.dup, 1) := by decide +kernel
theorem dX12_four_25 : decode cX12_four 25 = .ok (.getfield 263, 3) := by decide +kernel
theorem dX12_four_28 : decode cX12_four 28 = .ok (.iconst 1, 1) := by decide +kernel
theorem dX12_four_29 : decode cX12_four 29 = .ok (.iadd, 1) := by decide +kernel
theorem dX12_four_30 : decode cX12_four 30 = .ok (.putfield 263, 3) := by decide +kernel
theorem dX12_four_33 : decode cX12_four 33 = .ok (.iinc 2 (-8), 3) := by decide +kernel
theorem dX12_four_36 : decode cX12_four 36 = .ok (.goto (-33), 3) := by decide +kernel
theorem dX12_four_39 : decode cX12_four 39 = .ok (.return_, 1) := by decide +kernel
theorem dX12_feed_0 : decode cX12_feed 0 = .ok (.aload_n 0, 1) := by decide +kernel
theorem dX12_feed_1 : decode cX12_feed 1 = .ok (.iconst 0, 1) := by decide +kernel
theorem dX12_feed_2 : decode cX12_feed 2 = .ok (.putfield 175, 3) := by decide +kernel
theorem dX12_feed_5 : decode cX12_feed 5 = .ok (.aload_n 0, 1) := by decide +kernel
theorem dX12_feed_6 : decode cX12_feed 6 = .ok (.getfield 263, 3) := by decide +kernel
theorem dX12_feed_9 : decode cX12_feed 9 = .ok (.bipush 20, 2) := by decide +kernel
theorem dX12_feed_11 : decode cX12_feed 11 = .ok (.iadd, 1) := by decide +kernel
theorem dX12_feed_12 : decode cX12_feed 12 = .ok (.sipush 400, 3) := by decide +kernel
theorem dX12_feed_15 : decode cX12_feed 15 = .ok (.if_icmp .le 5, 3) := by decide +kernel
theorem dX12_feed_18 : decode cX12_feed 18 = .ok (.iconst (-1), 1) := by decide +kernel
theorem dX12_feed_19 : decode cX12_feed 19 = .ok (.ireturn, 1) := by decide +kernel
theorem dX12_feed_20 : decode cX12_feed 20 = .ok (.aload_n 0, 1) := by decide +kernel
theorem dX12_feed_21 : decode cX12_feed 21 = .ok (.iload_n 1, 1) := by decide +kernel
theorem dX12_feed_22 : decode cX12_feed 22 = .ok (.invokevirtual 269, 3) := by decide +kernel
theorem dX12_feed_25 : decode cX12_feed 25 = .ok (.aload_n 0, 1) := by decide +kernel
theorem dX12_feed_26 : decode cX12_feed 26 = .ok (.iload_n 2, 1) := by decide +kernel
theorem dX12_feed_27 : decode cX12_feed 27 = .ok (.invokevirtual 269, 3) := by decide +kernel
theorem dX12_feed_30 : decode cX12_feed 30 = .ok (.aload_n 0, 1) := by decide +kernel
theorem dX12_feed_31 : decode cX12_feed 31 = .ok (.iload_n 3, 1) := by decide +kernel
theorem dX12_feed_32 : decode cX12_feed 32 = .ok (.invokevirtual 269, 3) := by decide +kernel
theorem dX12_feed_35 : decode cX12_feed 35 = .ok (.aload_n 0, 1) := by decide +kernel
theorem dX12_feed_36 : decode cX12_feed 36 = .ok (.iload 4, 2) := by decide +kernel
theorem dX12_feed_38 : decode cX12_feed 38 = .ok (.invokevirtual 269, 3) := by decide +kernel
theorem dX12_feed_41 : decode cX12_feed 41 = .ok (.aload_n 0, 1) := by decide +kernel
theorem dX12_feed_42 : decode cX12_feed 42 = .ok (.iload 5, 2) := by decide +kernel
theorem dX12_feed_44 : decode cX12_feed 44 = .ok (.invokevirtual 269, 3) := by decide +kernel
theorem dX12_feed_47 : decode cX12_feed 47 = .ok (.aload_n 0, 1) := by decide +kernel
theorem dX12_feed_48 : decode cX12_feed 48 = .ok (.getfield 263, 3) := by decide +kernel
theorem dX12_feed_51 : decode cX12_feed 51 = .ok (.ireturn, 1) := by decide +kernel
theorem dX12_end_0 : decode cX12_end 0 = .ok (.aload_n 0, 1) := by decide +kernel
theorem dX12_end_1 : decode cX12_end 1 = .ok (.iconst 0, 1) := by decide +kernel
theorem dX12_end_2 : decode cX12_end 2 = .ok (.putfield 175, 3) := by decide +kernel
theorem dX12_end_5 : decode cX12_end 5 = .ok (.iload_n 1, 1) := by decide +kernel
theorem dX12_end_6 : decode cX12_end 6 = .ok (.ifCond .lt 11, 3) := by decide +kernel
theorem dX12_end_9 : decode cX12_end 9 = .ok (.iload_n 1, 1) := by decide +kernel
theorem dX12_end_10 : decode cX12_end 10 = .ok (.aload_n 0, 1) := by decide +kernel
theorem dX12_end_11 : decode cX12_end 11 = .ok (.getfield 263, 3) := by decide +kernel
theorem dX12_end_14 : decode cX12_end 14 = .ok (.if_icmp .le 5, 3) := by decide +kernel
theorem dX12_end_17 : decode cX12_end 17 = .ok (.iconst (-1), 1) := by decide +kernel
theorem dX12_end_18 : decode cX12_end 18 = .ok (.ireturn, 1) := by decide +kernel
theorem dX12_end_19 : decode cX12_end 19 = .ok (.aload_n 0, 1) := by decide +kernel
theorem dX12_end_20 : decode cX12_end 20 = .ok (.iload_n 1, 1) := by decide +kernel
theorem dX12_end_21 : decode cX12_end 21 = .ok (.putfield 263, 3) := by decide +kernel
theorem dX12_end_24 : decode cX12_end 24 = .ok (.iload_n 1, 1) := by decide +kernel
theorem dX12_end_25 : decode cX12_end 25 = .ok (.ireturn, 1) := by decide +kernel
theorem dX12_isSmall_0 : decode cX12_isSmall 0 = .ok (.iload_n 0, 1) := by decide +kernel
theorem dX12_isSmall_1 : decode cX12_isSmall 1 = .ok (.bipush 97, 2) := by decide +kernel
theorem dX12_isSmall_3 : decode cX12_isSmall 3 = .ok (.if_icmp .lt 13, 3) := by decide +kernel
theorem dX12_isSmall_6 : decode cX12_isSmall 6 = .ok (.iload_n 0, 1) := by decide +kernel
theorem dX12_isSmall_7 : decode cX12_isSmall 7 = .ok (.bipush 122, 2) := by decide +kernel
theorem dX12_isSmall_9 : decode cX12_isSmall 9 = .ok (.if_icmp .gt 7, 3) := by decide +kernel
theorem dX12_isSmall_12 : decode cX12_isSmall 12 = .ok (.iconst 1, 1) := by decide +kernel
theorem dX12_isSmall_13 : decode cX12_isSmall 13 = .ok (.goto 4, 3) := by decide +kernel
theorem dX12_isSmall_16 : decode cX12_isSmall 16 = .ok (.iconst 0, 1) := by decide +kernel
theorem dX12_isSmall_17 : decode cX12_isSmall 17 = .ok (.ireturn, 1) := by decide +kernel
theorem dX12_isDigit_0 : decode cX12_isDigit 0 = .ok (.iload_n 0, 1) := by decide +kernel
theorem dX12_isDigit_1 : decode cX12_isDigit 1 = .ok (.bipush 48, 2) := by decide +kernel
theorem dX12_isDigit_3 : decode cX12_isDigit 3 = .ok (.if_icmp .lt 13, 3) := by decide +kernel
theorem dX12_isDigit_6 : decode cX12_isDigit 6 = .ok (.iload_n 0, 1) := by decide +kernel
theorem dX12_isDigit_7 : decode cX12_isDigit 7 = .ok (.bipush 57, 2) := by decide +kernel
theorem dX12_isDigit_9 : decode cX12_isDigit 9 = .ok (.if_icmp .gt 7, 3) := by decide +kernel
theorem dX12_isDigit_12 : decode cX12_isDigit 12 = .ok (.iconst 1, 1) := by decide +kernel
theorem dX12_isDigit_13 : decode cX12_isDigit 13 = .ok (.goto 4, 3) := by decide +kernel
theorem dX12_isDigit_16 : decode cX12_isDigit 16 = .ok (.iconst 0, 1) := by decide +kernel
theorem dX12_isDigit_17 : decode cX12_isDigit 17 = .ok (.ireturn, 1) := by decide +kernel
theorem dX12_begin_0 : decode cX12_begin 0 = .ok (.aload_n 0, 1) := by decide +kernel
theorem dX12_begin_1 : decode cX12_begin 1 = .ok (.iconst 0, 1) := by decide +kernel
theorem dX12_begin_2 : decode cX12_begin 2 = .ok (.putfield 272, 3) := by decide +kernel
theorem dX12_begin_5 : decode cX12_begin 5 = .ok (.aload_n 0, 1) := by decide +kernel
theorem dX12_begin_6 : decode cX12_begin 6 = .ok (.iconst 0, 1) := by decide +kernel
theorem dX12_begin_7 : decode cX12_begin 7 = .ok (.putfield 275, 3) := by decide +kernel
theorem dX12_begin_10 : decode cX12_begin 10 = .ok (.aload_n 0, 1) := by decide +kernel
theorem dX12_begin_11 : decode cX12_begin 11 = .ok (.iconst (-1), 1) := by decide +kernel
theorem dX12_begin_12 : decode cX12_begin 12 = .ok (.putfield 38, 3) := by decide +kernel
theorem dX12_begin_15 : decode cX12_begin 15 = .ok (.aload_n 0, 1) := by decide +kernel
theorem dX12_begin_16 : decode cX12_begin 16 = .ok (.invokevirtual 279, 3) := by decide +kernel
theorem dX12_begin_19 : decode cX12_begin 19 = .ok (.return_, 1) := by decide +kernel
theorem dX12_next_0 : decode cX12_next 0 = .ok (.aload_n 0, 1) := by decide +kernel
theorem dX12_next_1 : decode cX12_next 1 = .ok (.aload_n 0, 1) := by decide +kernel
theorem dX12_next_2 : decode cX12_next 2 = .ok (.getfield 272, 3) := by decide +kernel
theorem dX12_next_5 : decode cX12_next 5 = .ok (.putfield 282, 3) := by decide +kernel
theorem dX12_next_8 : decode cX12_next 8 = .ok (.aload_n 0, 1) := by decide +kernel
theorem dX12_next_9 : decode cX12_next 9 = .ok (.getfield 282, 3) := by decide +kernel
theorem dX12_next_12 : decode cX12_next 12 = .ok (.aload_n 0, 1) := by decide +kernel
theorem dX12_next_13 : decode cX12_next 13 = .ok (.getfield 263, 3) := by decide +kernel
theorem dX12_next_16 : decode cX12_next 16 = .ok (.if_icmp .ge 30, 3) := by decide +kernel
theorem dX12_next_19 : decode cX12_next 19 = .ok (.aload_n 0, 1) := by decide +kernel
theorem dX12_next_20 : decode cX12_next 20 = .ok (.getfield 35, 3) := by decide +kernel
theorem dX12_next_23 : decode cX12_next 23 = .ok (.aload_n 0, 1) := by decide +kernel
theorem dX12_next_24 : decode cX12_next 24 = .ok (.getfield 282, 3) := by decide +kernel
theorem dX12_next_27 : decode cX12_next 27 = .ok (.iaload, 1) := by decide +kernel
theorem dX12_next_28 : decode cX12_next 28 = .ok (.bipush 32, 2) := by decide +kernel
theorem dX12_next_30 : decode cX12_next 30 = .ok (.if_icmp .ne 16, 3) := by decide +kernel
theorem dX12_next_33 : decode cX12_next 33 = .ok (.aload_n 0, 1) := by decide +kernel
theorem dX12_next_34 : decode cX12_next 34 = .ok (.dup, 1) := by decide +kernel
theorem dX12_next_35 : decode cX12_next 35 = .ok (.getfield 282, 3) := by decide +kernel
theorem dX12_next_38 : decode cX12_next 38 = .ok (.iconst 1, 1) := by decide +kernel
theorem dX12_next_39 : decode cX12_next 39 = .ok (.iadd, 1) := by decide +kernel
theorem dX12_next_40 : decode cX12_next 40 = .ok (.putfield 282, 3) := by decide +kernel
theorem dX12_next_43 : decode cX12_next 43 = .ok (.goto (-35), 3) := by decide +kernel
theorem dX12_next_46 : decode cX12_next 46 = .ok (.aload_n 0, 1) := by decide +kernel
theorem dX12_next_47 : decode cX12_next 47 = .ok (.aload_n 0, 1) := by decide +kernel
theorem dX12_next_48 : decode cX12_next 48 = .ok (.getfield 282, 3) := by decide +kernel
theorem dX12_next_51 : decode cX12_next 51 = .ok (.putfield 272, 3) := by decide +kernel
theorem dX12_next_54 : decode cX12_next 54 = .ok (.aload_n 0, 1) := by decide +kernel
theorem dX12_next_55 : decode cX12_next 55 = .ok (.lconst 0, 1) := by decide +kernel
theorem dX12_next_56 : decode cX12_next 56 = .ok (.putfield 285, 3) := by decide +kernel
theorem dX12_next_59 : decode cX12_next 59 = .ok (.aload_n 0, 1) := by decide +kernel
theorem dX12_next_60 : decode cX12_next 60 = .ok (.aload_n 0, 1) := by decide +kernel
theorem dX12_next_61 : decode cX12_next 61 = .ok (.getfield 282, 3) := by decide +kernel
theorem dX12_next_64 : decode cX12_next 64 = .ok (.aload_n 0, 1) := by decide +kernel
theorem dX12_next_65 : decode cX12_next 65 = .ok (.getfield 263, 3) := by decide +kernel
theorem dX12_next_68 : decode cX12_next 68 = .ok (.if_icmp .ne 7, 3) := by decide +kernel
theorem dX12_next_71 : decode cX12_next 71 = .ok (.iconst 0, 1) := by decide +kernel
theorem dX12_next_72 : decode cX12_next 72 = .ok (.goto 42, 3) := by decide +kernel
theorem dX12_next_75 : decode cX12_next 75 = .ok (.aload_n 0, 1) := by decide +kernel
theorem dX12_next_76 : decode cX12_next 76 = .ok (.getfield 35, 3) := by decide +kernel
theorem dX12_next_79 : decode cX12_next 79 = .ok (.aload_n 0, 1) := by decide +kernel
theorem dX12_next_80 : decode cX12_next 80 = .ok (.getfield 282, 3) := by decide +kernel
theorem dX12_next_83 : decode cX12_next 83 = .ok (.iaload, 1) := by decide +kernel
theorem dX12_next_84 : decode cX12_next 84 = .ok (.invokestatic 289, 3) := by decide +kernel
theorem dX12_next_87 : decode cX12_next 87 = .ok (.ifCond .eq 7, 3) := by decide +kernel
theorem dX12_next_90 : decode cX12_next 90 = .ok (.iconst 1, 1) := by decide +kernel
theorem dX12_next_91 : decode cX12_next 91 = .ok (.goto 23, 3) := by decide +kernel
theorem dX12_next_94 : decode cX12_next 94 = .ok (.aload_n 0, 1) := by decide +kernel
theorem dX12_next_95 : decode cX12_next 95 = .ok (.getfield 35, 3) := by decide +kernel
theorem dX12_next_98 : decode cX12_next 98 = .ok (.aload_n 0, 1) := by decide +kernel
theorem dX12_next_99 : decode cX12_next 99 = .ok (.getfield 282, 3) := by decide +kernel
theorem dX12_next_102 : decode cX12_next 102 = .ok (.iaload, 1) := by decide +kernel
theorem dX12_next_103 : decode cX12_next 103 = .ok (.invokestatic 292, 3) := by decide +kernel
theorem dX12_next_106 : decode cX12_next 106 = .ok (.ifCond .eq 7, 3) := by decide +kernel
theorem dX12_next_109 : decode cX12_next 109 = .ok (.iconst 2, 1) := by decide +kernel
theorem dX12_next_110 : decode cX12_next 110 = .ok (.goto 4, 3) := by decide +kernel
theorem dX12_next_113 : decode cX12_next 113 = .ok (.iconst 3, 1) := by decide +kernel
theorem dX12_next_114 : decode cX12_next 114 = .ok (.putfield 295, 3) := by decide +kernel
theorem dX12_next_117 : decode cX12_next 117 = .ok (.aload_n 0, 1) := by decide +kernel
theorem dX12_next_118 : decode cX12_next 118 = .ok (.getfield 295, 3) := by decide +kernel
theorem dX12_next_121 : decode cX12_next 121 = .ok (.iconst 3, 1) := by decide +kernel
theorem dX12_next_122 : decode cX12_next 122 = .ok (.if_icmp .ne 27, 3) := by decide +kernel
theorem dX12_next_125 : decode cX12_next 125 = .ok (.aload_n 0, 1) := by decide +kernel
theorem dX12_next_126 : decode cX12_next 126 = .ok (.aload_n 0, 1) := by decide +kernel
theorem dX12_next_127 : decode cX12_next 127 = .ok (.getfield 35, 3) := by decide +kernel
theorem dX12_next_130 : decode cX12_next 130 = .ok (.aload_n 0, 1) := by decide +kernel
theorem dX12_next_131 : decode cX12_next 131 = .ok (.getfield 282, 3) := by decide +kernel
theorem dX12_next_134 : decode cX12_next 134 = .ok (.iaload, 1) := by decide +kernel
theorem dX12_next_135 : decode cX12_next 135 = .ok (.i2l, 1) := by decide +kernel
theorem dX12_next_136 : decode cX12_next 136 = .ok (.putfield 285, 3) := by decide +kernel
theorem dX12_next_139 : decode cX12_next 139 = .ok (.aload_n 0, 1) := by decide +kernel
theorem dX12_next_140 : decode cX12_next 140 = .ok (.dup, 1) := by decide +kernel
theorem dX12_next_141 : decode cX12_next 141 = .ok (.getfield 272, 3) := by decide +kernel
theorem dX12_next_144 : decode cX12_next 144 = .ok (.iconst 1, 1) := by decide +kernel
theorem dX12_next_145 : decode cX12_next 145 = .ok (.iadd, 1) := by decide +kernel
theorem dX12_next_146 : decode cX12_next 146 = .ok (.putfield 272, 3) := by decide +kernel
theorem dX12_next_149 : decode cX12_next 149 = .ok (.aload_n 0, 1) := by decide +kernel
theorem dX12_next_150 : decode cX12_next 150 = .ok (.getfield 295, 3) := by decide +kernel
theorem dX12_next_153 : decode cX12_next 153 = .ok (.iconst 1, 1) := by decide +kernel
theorem dX12_next_154 : decode cX12_next 154 = .ok (.if_icmp .ne 89, 3) := by decide +kernel
theorem dX12_next_157 : decode cX12_next 157 = .ok (.aload_n 0, 1) := by decide +kernel
theorem dX12_next_158 : decode cX12_next 158 = .ok (.getfield 272, 3) := by decide +kernel
theorem dX12_next_161 : decode cX12_next 161 = .ok (.aload_n 0, 1) := by decide +kernel
theorem dX12_next_162 : decode cX12_next 162 = .ok (.getfield 263, 3) := by decide +kernel
theorem dX12_next_165 : decode cX12_next 165 = .ok (.if_icmp .ge 78, 3) := by decide +kernel
theorem dX12_next_168 : decode cX12_next 168 = .ok (.aload_n 0, 1) := by decide +kernel
theorem dX12_next_169 : decode cX12_next 169 = .ok (.getfield 35, 3) := by decide +kernel
theorem dX12_next_172 : decode cX12_next 172 = .ok (.aload_n 0, 1) := by decide +kernel
theorem dX12_next_173 : decode cX12_next 173 = .ok (.getfield 272, 3) := by decide +kernel
theorem dX12_next_176 : decode cX12_next 176 = .ok (.iaload, 1) := by decide +kernel
theorem dX12_next_177 : decode cX12_next 177 = .ok (.invokestatic 289, 3) := by decide +kernel
theorem dX12_next_180 : decode cX12_next 180 = .ok (.ifCond .eq 63, 3) := by decide +kernel
theorem dX12_next_183 : decode cX12_next 183 = .ok (.aload_n 0, 1) := by decide +kernel
theorem dX12_next_184 : decode cX12_next 184 = .ok (.aload_n 0, 1) := by decide +kernel
theorem dX12_next_185 : decode cX12_next 185 = .ok (.getfield 272, 3) := by decide +kernel
theorem dX12_next_188 : decode cX12_next 188 = .ok (.aload_n 0, 1) := by decide +kernel
theorem dX12_next_189 : decode cX12_next 189 = .ok (.getfield 282, 3) := by decide +kernel
theorem dX12_next_192 : decode cX12_next 192 = .ok (.isub, 1) := by decide +kernel
theorem dX12_next_193 : decode cX12_next 193 = .ok (.bipush 10, 2) := by decide +kernel
theorem dX12_next_195 : decode cX12_next 195 = .ok (.if_icmp .ge 29, 3) := by decide +kernel
theorem dX12_next_198 : decode cX12_next 198 = .ok (.aload_n 0, 1) := by decide +kernel
theorem dX12_next_199 : decode cX12_next 199 = .ok (.getfield 285, 3) := by decide +kernel
theorem dX12_next_202 : decode cX12_next 202 = .ok (.ldc2_w 298, 3) := by decide +kernel
theorem dX12_next_205 : decode cX12_next 205 = .ok (.lmul, 1) := by decide +kernel
theorem dX12_next_206 : decode cX12_next 206 = .ok (.aload_n 0, 1) := by decide +kernel
theorem dX12_next_207 : decode cX12_next 207 = .ok (.getfield 35, 3) := by decide +kernel
theorem dX12_next_210 : decode cX12_next 210 = .ok (.aload_n 0, 1) := by decide +kernel
theorem dX12_next_211 : decode cX12_next 211 = .ok (.getfield 272, 3) := by decide +kernel
theorem dX12_next_214 : decode cX12_next 214 = .ok (.iaload, 1) := by decide +kernel
theorem dX12_next_215 : decode cX12_next 215 = .ok (.i2l, 1) := by decide +kernel
theorem dX12_next_216 : decode cX12_next 216 = .ok (.ladd, 1) := by decide +kernel
theorem dX12_next_217 : decode cX12_next 217 = .ok (.ldc2_w 300, 3) := by decide +kernel
theorem dX12_next_220 : decode cX12_next 220 = .ok (.lsub, 1) := by decide +kernel
theorem dX12_next_221 : decode cX12_next 221 = .ok (.goto 6, 3) := by decide +kernel
theorem dX12_next_224 : decode cX12_next 224 = .ok (.ldc2_w 302, 3) := by decide +kernel
theorem dX12_next_227 : decode cX12_next 227 = .ok (.putfield 285, 3) := by decide +kernel
theorem dX12_next_230 : decode cX12_next 230 = .ok (.aload_n 0, 1) := by decide +kernel
theorem dX12_next_231 : decode cX12_next 231 = .ok (.dup, 1) := by decide +kernel
theorem dX12_next_232 : decode cX12_next 232 = .ok (.getfield 272, 3) := by decide +kernel
theorem dX12_next_235 : decode cX12_next 235 = .ok (.iconst 1, 1) := by decide +kernel
theorem dX12_next_236 : decode cX12_next 236 = .ok (.iadd, 1) := by decide +kernel
theorem dX12_next_237 : decode cX12_next 237 = .ok (.putfield 272, 3) := by decide +kernel
theorem dX12_next_240 : decode cX12_next 240 = .ok (.goto (-91), 3) := by decide +kernel
theorem dX12_next_243 : decode cX12_next 243 = .ok (.aload_n 0, 1) := by decide +kernel
theorem dX12_next_244 : decode cX12_next 244 = .ok (.getfield 295, 3) := by decide +kernel
theorem dX12_next_247 : decode cX12_next 247 = .ok (.iconst 2, 1) := by decide +kernel
theorem dX12_next_248 : decode cX12_next 248 = .ok (.if_icmp .ne 87, 3) := by decide +kernel
theorem dX12_next_251 : decode cX12_next 251 = .ok (.aload_n 0, 1) := by decide +kernel
theorem dX12_next_252 : decode cX12_next 252 = .ok (.getfield 272, 3) := by decide +kernel
theorem dX12_next_255 : decode cX12_next 255 = .ok (.aload_n 0, 1) := by decide +kernel
theorem dX12_next_256 : decode cX12_next 256 = .ok (.getfield 263, 3) := by decide +kernel
theorem dX12_next_259 : decode cX12_next 259 = .ok (.if_icmp .ge 76, 3) := by decide +kernel
theorem dX12_next_262 : decode cX12_next 262 = .ok (.aload_n 0, 1) := by decide +kernel
theorem dX12_next_263 : decode cX12_next 263 = .ok (.getfield 35, 3) := by decide +kernel
theorem dX12_next_266 : decode cX12_next 266 = .ok (.aload_n 0, 1) := by decide +kernel
theorem dX12_next_267 : decode cX12_next 267 = .ok (.getfield 272, 3) := by decide +kernel
theorem dX12_next_270 : decode cX12_next 270 = .ok (.iaload, 1) := by decide +kernel
theorem dX12_next_271 : decode cX12_next 271 = .ok (.invokestatic 292, 3) := by decide +kernel
theorem dX12_next_274 : decode cX12_next 274 = .ok (.ifCond .eq 61, 3) := by decide +kernel
theorem dX12_next_277 : decode cX12_next 277 = .ok (.aload_n 0, 1) := by decide +kernel
theorem dX12_next_278 : decode cX12_next 278 = .ok (.aload_n 0, 1) := by decide +kernel
theorem dX12_next_279 : decode cX12_next 279 = .ok (.getfield 285, 3) := by decide +kernel
theorem dX12_next_282 : decode cX12_next 282 = .ok (.ldc2_w 304, 3) := by decide +kernel
theorem dX12_next_285 : decode cX12_next 285 = .ok (.lcmp, 1) := by decide +kernel
theorem dX12_next_286 : decode cX12_next 286 = .ok (.ifCond .le 10, 3) := by decide +kernel
theorem dX12_next_289 : decode cX12_next 289 = .ok (.aload_n 0, 1) := by decide +kernel
theorem dX12_next_290 : decode cX12_next 290 = .ok (.getfield 285, 3) := by decide +kernel
theorem dX12_next_293 : decode cX12_next 293 = .ok (.goto 26, 3) := by decide +kernel
theorem dX12_next_296 : decode cX12_next 296 = .ok (.aload_n 0, 1) := by decide +kernel
theorem dX12_next_297 : decode cX12_next 297 = .ok (.getfield 285, 3) := by decide +kernel
theorem dX12_next_300 : decode cX12_next 300 = .ok (.ldc2_w 259, 3) := by decide +kernel
theorem dX12_next_303 : decode cX12_next 303 = .ok (.lmul, 1) := by decide +kernel
theorem dX12_next_304 : decode cX12_next 304 = .ok (.aload_n 0, 1) := by decide +kernel
theorem dX12_next_305 : decode cX12_next 305 = .ok (.getfield 35, 3) := by decide +kernel
theorem dX12_next_308 : decode cX12_next 308 = .ok (.aload_n 0, 1) := by decide +kernel
theorem dX12_next_309 : decode cX12_next 309 = .ok (.getfield 272, 3) := by decide +kernel
theorem dX12_next_312 : decode cX12_next 312 = .ok (.iaload, 1) := by decide +kernel
theorem dX12_next_313 : decode cX12_next 313 = .ok (.i2l, 1) := by decide +kernel
theorem dX12_next_314 : decode cX12_next 314 = .ok (.ladd, 1) := by decide +kernel
theorem dX12_next_315 : decode cX12_next 315 = .ok (.ldc2_w 306, 3) := by decide +kernel
theorem dX12_next_318 : decode cX12_next 318 = .ok (.lsub, 1) := by decide +kernel
theorem dX12_next_319 : decode cX12_next 319 = .ok (.putfield 285, 3) := by decide +kernel
theorem dX12_next_322 : decode cX12_next 322 = .ok (.aload_n 0, 1) := by decide +kernel
theorem dX12_next_323 : decode cX12_next 323 = .ok (.dup, 1) := by decide +kernel
theorem dX12_next_324 : decode cX12_next 324 = .ok (.getfield 272, 3) := by decide +kernel
theorem dX12_next_327 : decode cX12_next 327 = .ok (.iconst 1, 1) := by decide +kernel
theorem dX12_next_328 : decode cX12_next 328 = .ok (.iadd, 1) := by decide +kernel
theorem dX12_next_329 : decode cX12_next 329 = .ok (.putfield 272, 3) := by decide +kernel
theorem dX12_next_332 : decode cX12_next 332 = .ok (.goto (-89), 3) := by decide +kernel
theorem dX12_next_335 : decode cX12_next 335 = .ok (.return_, 1) := by decide +kernel
theorem dX12_isWord_0 : decode cX12_isWord 0 = .ok (.aload_n 0, 1) := by decide +kernel
theorem dX12_isWord_1 : decode cX12_isWord 1 = .ok (.getfield 295, 3) := by decide +kernel
theorem dX12_isWord_4 : decode cX12_isWord 4 = .ok (.iconst 1, 1) := by decide +kernel
theorem dX12_isWord_5 : decode cX12_isWord 5 = .ok (.if_icmp .ne 16, 3) := by decide +kernel
theorem dX12_isWord_8 : decode cX12_isWord 8 = .ok (.aload_n 0, 1) := by decide +kernel
