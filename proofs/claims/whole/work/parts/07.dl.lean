theorem dL_law_0 : decode cL_law 0 = .ok (.new 7, 3) := by decide +kernel
theorem dL_law_3 : decode cL_law 3 = .ok (.dup, 1) := by decide +kernel
theorem dL_law_4 : decode cL_law 4 = .ok (.invokespecial 9, 3) := by decide +kernel
theorem dL_law_7 : decode cL_law 7 = .ok (.astore_n 1, 1) := by decide +kernel
theorem dL_law_8 : decode cL_law 8 = .ok (.new 10, 3) := by decide +kernel
theorem dL_law_11 : decode cL_law 11 = .ok (.dup, 1) := by decide +kernel
theorem dL_law_12 : decode cL_law 12 = .ok (.invokespecial 12, 3) := by decide +kernel
theorem dL_law_15 : decode cL_law 15 = .ok (.astore_n 2, 1) := by decide +kernel
theorem dL_law_16 : decode cL_law 16 = .ok (.iconst 0, 1) := by decide +kernel
theorem dL_law_17 : decode cL_law 17 = .ok (.istore_n 3, 1) := by decide +kernel
theorem dL_law_18 : decode cL_law 18 = .ok (.iload_n 3, 1) := by decide +kernel
theorem dL_law_19 : decode cL_law 19 = .ok (.aload_n 0, 1) := by decide +kernel
theorem dL_law_20 : decode cL_law 20 = .ok (.arraylength, 1) := by decide +kernel
theorem dL_law_21 : decode cL_law 21 = .ok (.bipush 6, 2) := by decide +kernel
theorem dL_law_23 : decode cL_law 23 = .ok (.isub, 1) := by decide +kernel
theorem dL_law_24 : decode cL_law 24 = .ok (.if_icmp .gt 1385, 3) := by decide +kernel
theorem dL_law_27 : decode cL_law 27 = .ok (.aload_n 0, 1) := by decide +kernel
theorem dL_law_28 : decode cL_law 28 = .ok (.iload_n 3, 1) := by decide +kernel
theorem dL_law_29 : decode cL_law 29 = .ok (.iaload, 1) := by decide +kernel
theorem dL_law_30 : decode cL_law 30 = .ok (.bipush 63, 2) := by decide +kernel
theorem dL_law_32 : decode cL_law 32 = .ok (.iand, 1) := by decide +kernel
theorem dL_law_33 : decode cL_law 33 = .ok (.tableswitch 1370 0 41 #[183, 206, 239, 282, 315, 348, 391, 424, 487, 510, 523, 536, 549, 562, 575, 588, 611, 654, 687, 720, 733, 746, 789, 802, 815, 838, 861, 894, 937, 980, 1023, 1076, 1109, 1142, 1165, 1199, 1222, 1255, 1288, 1311, 1334, 1357], 183) := by decide +kernel
theorem dL_law_216 : decode cL_law 216 = .ok (.aload_n 1, 1) := by decide +kernel
theorem dL_law_217 : decode cL_law 217 = .ok (.aload_n 0, 1) := by decide +kernel
theorem dL_law_218 : decode cL_law 218 = .ok (.iload_n 3, 1) := by decide +kernel
theorem dL_law_219 : decode cL_law 219 = .ok (.iconst 1, 1) := by decide +kernel
theorem dL_law_220 : decode cL_law 220 = .ok (.iadd, 1) := by decide +kernel
theorem dL_law_221 : decode cL_law 221 = .ok (.iaload, 1) := by decide +kernel
theorem dL_law_222 : decode cL_law 222 = .ok (.invokevirtual 13, 3) := by decide +kernel
theorem dL_law_225 : decode cL_law 225 = .ok (.aload_n 2, 1) := by decide +kernel
theorem dL_law_226 : decode cL_law 226 = .ok (.aload_n 0, 1) := by decide +kernel
theorem dL_law_227 : decode cL_law 227 = .ok (.iload_n 3, 1) := by decide +kernel
theorem dL_law_228 : decode cL_law 228 = .ok (.iconst 1, 1) := by decide +kernel
theorem dL_law_229 : decode cL_law 229 = .ok (.iadd, 1) := by decide +kernel
theorem dL_law_230 : decode cL_law 230 = .ok (.iaload, 1) := by decide +kernel
theorem dL_law_231 : decode cL_law 231 = .ok (.invokevirtual 17, 3) := by decide +kernel
theorem dL_law_234 : decode cL_law 234 = .ok (.if_icmp .eq 1169, 3) := by decide +kernel
theorem dL_law_237 : decode cL_law 237 = .ok (.iconst 0, 1) := by decide +kernel
theorem dL_law_238 : decode cL_law 238 = .ok (.ireturn, 1) := by decide +kernel
theorem dL_law_239 : decode cL_law 239 = .ok (.aload_n 1, 1) := by decide +kernel
theorem dL_law_240 : decode cL_law 240 = .ok (.aload_n 0, 1) := by decide +kernel
theorem dL_law_241 : decode cL_law 241 = .ok (.iload_n 3, 1) := by decide +kernel
theorem dL_law_242 : decode cL_law 242 = .ok (.iconst 1, 1) := by decide +kernel
theorem dL_law_243 : decode cL_law 243 = .ok (.iadd, 1) := by decide +kernel
theorem dL_law_244 : decode cL_law 244 = .ok (.iaload, 1) := by decide +kernel
theorem dL_law_245 : decode cL_law 245 = .ok (.aload_n 0, 1) := by decide +kernel
theorem dL_law_246 : decode cL_law 246 = .ok (.iload_n 3, 1) := by decide +kernel
theorem dL_law_247 : decode cL_law 247 = .ok (.iconst 2, 1) := by decide +kernel
theorem dL_law_248 : decode cL_law 248 = .ok (.iadd, 1) := by decide +kernel
theorem dL_law_249 : decode cL_law 249 = .ok (.iaload, 1) := by decide +kernel
theorem dL_law_250 : decode cL_law 250 = .ok (.invokevirtual 18, 3) := by decide +kernel
theorem dL_law_253 : decode cL_law 253 = .ok (.aload_n 2, 1) := by decide +kernel
theorem dL_law_254 : decode cL_law 254 = .ok (.aload_n 0, 1) := by decide +kernel
theorem dL_law_255 : decode cL_law 255 = .ok (.iload_n 3, 1) := by decide +kernel
theorem dL_law_256 : decode cL_law 256 = .ok (.iconst 1, 1) := by decide +kernel
theorem dL_law_257 : decode cL_law 257 = .ok (.iadd, 1) := by decide +kernel
theorem dL_law_258 : decode cL_law 258 = .ok (.iaload, 1) := by decide +kernel
theorem dL_law_259 : decode cL_law 259 = .ok (.aload_n 0, 1) := by decide +kernel
theorem dL_law_260 : decode cL_law 260 = .ok (.iload_n 3, 1) := by decide +kernel
theorem dL_law_261 : decode cL_law 261 = .ok (.iconst 2, 1) := by decide +kernel
theorem dL_law_262 : decode cL_law 262 = .ok (.iadd, 1) := by decide +kernel
theorem dL_law_263 : decode cL_law 263 = .ok (.iaload, 1) := by decide +kernel
theorem dL_law_264 : decode cL_law 264 = .ok (.invokevirtual 22, 3) := by decide +kernel
theorem dL_law_267 : decode cL_law 267 = .ok (.if_icmp .eq 1136, 3) := by decide +kernel
theorem dL_law_270 : decode cL_law 270 = .ok (.iconst 0, 1) := by decide +kernel
theorem dL_law_271 : decode cL_law 271 = .ok (.ireturn, 1) := by decide +kernel
theorem dL_law_272 : decode cL_law 272 = .ok (.aload_n 1, 1) := by decide +kernel
theorem dL_law_273 : decode cL_law 273 = .ok (.aload_n 0, 1) := by decide +kernel
theorem dL_law_274 : decode cL_law 274 = .ok (.iload_n 3, 1) := by decide +kernel
theorem dL_law_275 : decode cL_law 275 = .ok (.iconst 1, 1) := by decide +kernel
theorem dL_law_276 : decode cL_law 276 = .ok (.iadd, 1) := by decide +kernel
theorem dL_law_277 : decode cL_law 277 = .ok (.iaload, 1) := by decide +kernel
theorem dL_law_278 : decode cL_law 278 = .ok (.aload_n 0, 1) := by decide +kernel
theorem dL_law_279 : decode cL_law 279 = .ok (.iload_n 3, 1) := by decide +kernel
theorem dL_law_280 : decode cL_law 280 = .ok (.iconst 2, 1) := by decide +kernel
theorem dL_law_281 : decode cL_law 281 = .ok (.iadd, 1) := by decide +kernel
theorem dL_law_282 : decode cL_law 282 = .ok (.iaload, 1) := by decide +kernel
theorem dL_law_283 : decode cL_law 283 = .ok (.aload_n 0, 1) := by decide +kernel
theorem dL_law_284 : decode cL_law 284 = .ok (.iload_n 3, 1) := by decide +kernel
theorem dL_law_285 : decode cL_law 285 = .ok (.iconst 3, 1) := by decide +kernel
theorem dL_law_286 : decode cL_law 286 = .ok (.iadd, 1) := by decide +kernel
theorem dL_law_287 : decode cL_law 287 = .ok (.iaload, 1) := by decide +kernel
theorem dL_law_288 : decode cL_law 288 = .ok (.invokevirtual 23, 3) := by decide +kernel
theorem dL_law_291 : decode cL_law 291 = .ok (.aload_n 2, 1) := by decide +kernel
theorem dL_law_292 : decode cL_law 292 = .ok (.aload_n 0, 1) := by decide +kernel
theorem dL_law_293 : decode cL_law 293 = .ok (.iload_n 3, 1) := by decide +kernel
theorem dL_law_294 : decode cL_law 294 = .ok (.iconst 1, 1) := by decide +kernel
theorem dL_law_295 : decode cL_law 295 = .ok (.iadd, 1) := by decide +kernel
theorem dL_law_296 : decode cL_law 296 = .ok (.iaload, 1) := by decide +kernel
theorem dL_law_297 : decode cL_law 297 = .ok (.aload_n 0, 1) := by decide +kernel
theorem dL_law_298 : decode cL_law 298 = .ok (.iload_n 3, 1) := by decide +kernel
theorem dL_law_299 : decode cL_law 299 = .ok (.iconst 2, 1) := by decide +kernel
theorem dL_law_300 : decode cL_law 300 = .ok (.iadd, 1) := by decide +kernel
theorem dL_law_301 : decode cL_law 301 = .ok (.iaload, 1) := by decide +kernel
theorem dL_law_302 : decode cL_law 302 = .ok (.aload_n 0, 1) := by decide +kernel
theorem dL_law_303 : decode cL_law 303 = .ok (.iload_n 3, 1) := by decide +kernel
theorem dL_law_304 : decode cL_law 304 = .ok (.iconst 3, 1) := by decide +kernel
theorem dL_law_305 : decode cL_law 305 = .ok (.iadd, 1) := by decide +kernel
theorem dL_law_306 : decode cL_law 306 = .ok (.iaload, 1) := by decide +kernel
theorem dL_law_307 : decode cL_law 307 = .ok (.invokevirtual 27, 3) := by decide +kernel
theorem dL_law_310 : decode cL_law 310 = .ok (.if_icmp .eq 1093, 3) := by decide +kernel
theorem dL_law_313 : decode cL_law 313 = .ok (.iconst 0, 1) := by decide +kernel
theorem dL_law_314 : decode cL_law 314 = .ok (.ireturn, 1) := by decide +kernel
theorem dL_law_315 : decode cL_law 315 = .ok (.aload_n 1, 1) := by decide +kernel
theorem dL_law_316 : decode cL_law 316 = .ok (.aload_n 0, 1) := by decide +kernel
theorem dL_law_317 : decode cL_law 317 = .ok (.iload_n 3, 1) := by decide +kernel
theorem dL_law_318 : decode cL_law 318 = .ok (.iconst 1, 1) := by decide +kernel
theorem dL_law_319 : decode cL_law 319 = .ok (.iadd, 1) := by decide +kernel
theorem dL_law_320 : decode cL_law 320 = .ok (.iaload, 1) := by decide +kernel
theorem dL_law_321 : decode cL_law 321 = .ok (.aload_n 0, 1) := by decide +kernel
theorem dL_law_322 : decode cL_law 322 = .ok (.iload_n 3, 1) := by decide +kernel
theorem dL_law_323 : decode cL_law 323 = .ok (.iconst 2, 1) := by decide +kernel
theorem dL_law_324 : decode cL_law 324 = .ok (.iadd, 1) := by decide +kernel
theorem dL_law_325 : decode cL_law 325 = .ok (.iaload, 1) := by decide +kernel
theorem dL_law_326 : decode cL_law 326 = .ok (.invokevirtual 28, 3) := by decide +kernel
theorem dL_law_329 : decode cL_law 329 = .ok (.aload_n 2, 1) := by decide +kernel
theorem dL_law_330 : decode cL_law 330 = .ok (.aload_n 0, 1) := by decide +kernel
theorem dL_law_331 : decode cL_law 331 = .ok (.iload_n 3, 1) := by decide +kernel
theorem dL_law_332 : decode cL_law 332 = .ok (.iconst 1, 1) := by decide +kernel
theorem dL_law_333 : decode cL_law 333 = .ok (.iadd, 1) := by decide +kernel
theorem dL_law_334 : decode cL_law 334 = .ok (.iaload, 1) := by decide +kernel
theorem dL_law_335 : decode cL_law 335 = .ok (.aload_n 0, 1) := by decide +kernel
theorem dL_law_336 : decode cL_law 336 = .ok (.iload_n 3, 1) := by decide +kernel
theorem dL_law_337 : decode cL_law 337 = .ok (.iconst 2, 1) := by decide +kernel
theorem dL_law_338 : decode cL_law 338 = .ok (.iadd, 1) := by decide +kernel
theorem dL_law_339 : decode cL_law 339 = .ok (.iaload, 1) := by decide +kernel
theorem dL_law_340 : decode cL_law 340 = .ok (.invokevirtual 31, 3) := by decide +kernel
theorem dL_law_343 : decode cL_law 343 = .ok (.if_icmp .eq 1060, 3) := by decide +kernel
theorem dL_law_346 : decode cL_law 346 = .ok (.iconst 0, 1) := by decide +kernel
theorem dL_law_347 : decode cL_law 347 = .ok (.ireturn, 1) := by decide +kernel
theorem dL_law_348 : decode cL_law 348 = .ok (.aload_n 1, 1) := by decide +kernel
theorem dL_law_349 : decode cL_law 349 = .ok (.aload_n 0, 1) := by decide +kernel
theorem dL_law_350 : decode cL_law 350 = .ok (.iload_n 3, 1) := by decide +kernel
theorem dL_law_351 : decode cL_law 351 = .ok (.iconst 1, 1) := by decide +kernel
theorem dL_law_352 : decode cL_law 352 = .ok (.iadd, 1) := by decide +kernel
theorem dL_law_353 : decode cL_law 353 = .ok (.iaload, 1) := by decide +kernel
theorem dL_law_354 : decode cL_law 354 = .ok (.aload_n 0, 1) := by decide +kernel
theorem dL_law_355 : decode cL_law 355 = .ok (.iload_n 3, 1) := by decide +kernel
theorem dL_law_356 : decode cL_law 356 = .ok (.iconst 2, 1) := by decide +kernel
theorem dL_law_357 : decode cL_law 357 = .ok (.iadd, 1) := by decide +kernel
theorem dL_law_358 : decode cL_law 358 = .ok (.iaload, 1) := by decide +kernel
theorem dL_law_359 : decode cL_law 359 = .ok (.invokevirtual 32, 3) := by decide +kernel
theorem dL_law_362 : decode cL_law 362 = .ok (.aload_n 2, 1) := by decide +kernel
theorem dL_law_363 : decode cL_law 363 = .ok (.aload_n 0, 1) := by decide +kernel
theorem dL_law_364 : decode cL_law 364 = .ok (.iload_n 3, 1) := by decide +kernel
theorem dL_law_365 : decode cL_law 365 = .ok (.iconst 1, 1) := by decide +kernel
theorem dL_law_366 : decode cL_law 366 = .ok (.iadd, 1) := by decide +kernel
theorem dL_law_367 : decode cL_law 367 = .ok (.iaload, 1) := by decide +kernel
theorem dL_law_368 : decode cL_law 368 = .ok (.aload_n 0, 1) := by decide +kernel
theorem dL_law_369 : decode cL_law 369 = .ok (.iload_n 3, 1) := by decide +kernel
theorem dL_law_370 : decode cL_law 370 = .ok (.iconst 2, 1) := by decide +kernel
theorem dL_law_371 : decode cL_law 371 = .ok (.iadd, 1) := by decide +kernel
theorem dL_law_372 : decode cL_law 372 = .ok (.iaload, 1) := by decide +kernel
theorem dL_law_373 : decode cL_law 373 = .ok (.invokevirtual 35, 3) := by decide +kernel
theorem dL_law_376 : decode cL_law 376 = .ok (.if_icmp .eq 1027, 3) := by decide +kernel
theorem dL_law_379 : decode cL_law 379 = .ok (.iconst 0, 1) := by decide +kernel
theorem dL_law_380 : decode cL_law 380 = .ok (.ireturn, 1) := by decide +kernel
theorem dL_law_381 : decode cL_law 381 = .ok (.aload_n 1, 1) := by decide +kernel
theorem dL_law_382 : decode cL_law 382 = .ok (.aload_n 0, 1) := by decide +kernel
theorem dL_law_383 : decode cL_law 383 = .ok (.iload_n 3, 1) := by decide +kernel
theorem dL_law_384 : decode cL_law 384 = .ok (.iconst 1, 1) := by decide +kernel
theorem dL_law_385 : decode cL_law 385 = .ok (.iadd, 1) := by decide +kernel
theorem dL_law_386 : decode cL_law 386 = .ok (.iaload, 1) := by decide +kernel
theorem dL_law_387 : decode cL_law 387 = .ok (.aload_n 0, 1) := by decide +kernel
theorem dL_law_388 : decode cL_law 388 = .ok (.iload_n 3, 1) := by decide +kernel
theorem dL_law_389 : decode cL_law 389 = .ok (.iconst 2, 1) := by decide +kernel
theorem dL_law_390 : decode cL_law 390 = .ok (.iadd, 1) := by decide +kernel
theorem dL_law_391 : decode cL_law 391 = .ok (.iaload, 1) := by decide +kernel
theorem dL_law_392 : decode cL_law 392 = .ok (.aload_n 0, 1) := by decide +kernel
theorem dL_law_393 : decode cL_law 393 = .ok (.iload_n 3, 1) := by decide +kernel
theorem dL_law_394 : decode cL_law 394 = .ok (.iconst 3, 1) := by decide +kernel
theorem dL_law_395 : decode cL_law 395 = .ok (.iadd, 1) := by decide +kernel
theorem dL_law_396 : decode cL_law 396 = .ok (.iaload, 1) := by decide +kernel
theorem dL_law_397 : decode cL_law 397 = .ok (.invokevirtual 36, 3) := by decide +kernel
theorem dL_law_400 : decode cL_law 400 = .ok (.aload_n 2, 1) := by decide +kernel
theorem dL_law_401 : decode cL_law 401 = .ok (.aload_n 0, 1) := by decide +kernel
theorem dL_law_402 : decode cL_law 402 = .ok (.iload_n 3, 1) := by decide +kernel
theorem dL_law_403 : decode cL_law 403 = .ok (.iconst 1, 1) := by decide +kernel
theorem dL_law_404 : decode cL_law 404 = .ok (.iadd, 1) := by decide +kernel
theorem dL_law_405 : decode cL_law 405 = .ok (.iaload, 1) := by decide +kernel
theorem dL_law_406 : decode cL_law 406 = .ok (.aload_n 0, 1) := by decide +kernel
theorem dL_law_407 : decode cL_law 407 = .ok (.iload_n 3, 1) := by decide +kernel
theorem dL_law_408 : decode cL_law 408 = .ok (.iconst 2, 1) := by decide +kernel
theorem dL_law_409 : decode cL_law 409 = .ok (.iadd, 1) := by decide +kernel
theorem dL_law_410 : decode cL_law 410 = .ok (.iaload, 1) := by decide +kernel
theorem dL_law_411 : decode cL_law 411 = .ok (.aload_n 0, 1) := by decide +kernel
theorem dL_law_412 : decode cL_law 412 = .ok (.iload_n 3, 1) := by decide +kernel
theorem dL_law_413 : decode cL_law 413 = .ok (.iconst 3, 1) := by decide +kernel
theorem dL_law_414 : decode cL_law 414 = .ok (.iadd, 1) := by decide +kernel
theorem dL_law_415 : decode cL_law 415 = .ok (.iaload, 1) := by decide +kernel
theorem dL_law_416 : decode cL_law 416 = .ok (.invokevirtual 39, 3) := by decide +kernel
theorem dL_law_419 : decode cL_law 419 = .ok (.if_icmp .eq 984, 3) := by decide +kernel
theorem dL_law_422 : decode cL_law 422 = .ok (.iconst 0, 1) := by decide +kernel
theorem dL_law_423 : decode cL_law 423 = .ok (.ireturn, 1) := by decide +kernel
theorem dL_law_424 : decode cL_law 424 = .ok (.aload_n 1, 1) := by decide +kernel
theorem dL_law_425 : decode cL_law 425 = .ok (.aload_n 0, 1) := by decide +kernel
theorem dL_law_426 : decode cL_law 426 = .ok (.iload_n 3, 1) := by decide +kernel
theorem dL_law_427 : decode cL_law 427 = .ok (.iconst 1, 1) := by decide +kernel
theorem dL_law_428 : decode cL_law 428 = .ok (.iadd, 1) := by decide +kernel
theorem dL_law_429 : decode cL_law 429 = .ok (.iaload, 1) := by decide +kernel
theorem dL_law_430 : decode cL_law 430 = .ok (.aload_n 0, 1) := by decide +kernel
theorem dL_law_431 : decode cL_law 431 = .ok (.iload_n 3, 1) := by decide +kernel
theorem dL_law_432 : decode cL_law 432 = .ok (.iconst 2, 1) := by decide +kernel
theorem dL_law_433 : decode cL_law 433 = .ok (.iadd, 1) := by decide +kernel
theorem dL_law_434 : decode cL_law 434 = .ok (.iaload, 1) := by decide +kernel
theorem dL_law_435 : decode cL_law 435 = .ok (.invokevirtual 40, 3) := by decide +kernel
theorem dL_law_438 : decode cL_law 438 = .ok (.aload_n 2, 1) := by decide +kernel
theorem dL_law_439 : decode cL_law 439 = .ok (.aload_n 0, 1) := by decide +kernel
theorem dL_law_440 : decode cL_law 440 = .ok (.iload_n 3, 1) := by decide +kernel
theorem dL_law_441 : decode cL_law 441 = .ok (.iconst 1, 1) := by decide +kernel
theorem dL_law_442 : decode cL_law 442 = .ok (.iadd, 1) := by decide +kernel
theorem dL_law_443 : decode cL_law 443 = .ok (.iaload, 1) := by decide +kernel
theorem dL_law_444 : decode cL_law 444 = .ok (.aload_n 0, 1) := by decide +kernel
theorem dL_law_445 : decode cL_law 445 = .ok (.iload_n 3, 1) := by decide +kernel
theorem dL_law_446 : decode cL_law 446 = .ok (.iconst 2, 1) := by decide +kernel
theorem dL_law_447 : decode cL_law 447 = .ok (.iadd, 1) := by decide +kernel
theorem dL_law_448 : decode cL_law 448 = .ok (.iaload, 1) := by decide +kernel
theorem dL_law_449 : decode cL_law 449 = .ok (.invokevirtual 43, 3) := by decide +kernel
theorem dL_law_452 : decode cL_law 452 = .ok (.if_icmp .eq 951, 3) := by decide +kernel
theorem dL_law_455 : decode cL_law 455 = .ok (.iconst 0, 1) := by decide +kernel
theorem dL_law_456 : decode cL_law 456 = .ok (.ireturn, 1) := by decide +kernel
theorem dL_law_457 : decode cL_law 457 = .ok (.aload_n 1, 1) := by decide +kernel
theorem dL_law_458 : decode cL_law 458 = .ok (.aload_n 0, 1) := by decide +kernel
theorem dL_law_459 : decode cL_law 459 = .ok (.iload_n 3, 1) := by decide +kernel
theorem dL_law_460 : decode cL_law 460 = .ok (.iconst 1, 1) := by decide +kernel
theorem dL_law_461 : decode cL_law 461 = .ok (.iadd, 1) := by decide +kernel
theorem dL_law_462 : decode cL_law 462 = .ok (.iaload, 1) := by decide +kernel
theorem dL_law_463 : decode cL_law 463 = .ok (.aload_n 0, 1) := by decide +kernel
theorem dL_law_464 : decode cL_law 464 = .ok (.iload_n 3, 1) := by decide +kernel
theorem dL_law_465 : decode cL_law 465 = .ok (.iconst 2, 1) := by decide +kernel
theorem dL_law_466 : decode cL_law 466 = .ok (.iadd, 1) := by decide +kernel
theorem dL_law_467 : decode cL_law 467 = .ok (.iaload, 1) := by decide +kernel
theorem dL_law_468 : decode cL_law 468 = .ok (.aload_n 0, 1) := by decide +kernel
theorem dL_law_469 : decode cL_law 469 = .ok (.iload_n 3, 1) := by decide +kernel
theorem dL_law_470 : decode cL_law 470 = .ok (.iconst 3, 1) := by decide +kernel
theorem dL_law_471 : decode cL_law 471 = .ok (.iadd, 1) := by decide +kernel
theorem dL_law_472 : decode cL_law 472 = .ok (.iaload, 1) := by decide +kernel
theorem dL_law_473 : decode cL_law 473 = .ok (.aload_n 0, 1) := by decide +kernel
theorem dL_law_474 : decode cL_law 474 = .ok (.iload_n 3, 1) := by decide +kernel
theorem dL_law_475 : decode cL_law 475 = .ok (.iconst 4, 1) := by decide +kernel
theorem dL_law_476 : decode cL_law 476 = .ok (.iadd, 1) := by decide +kernel
theorem dL_law_477 : decode cL_law 477 = .ok (.iaload, 1) := by decide +kernel
theorem dL_law_478 : decode cL_law 478 = .ok (.aload_n 0, 1) := by decide +kernel
theorem dL_law_479 : decode cL_law 479 = .ok (.iload_n 3, 1) := by decide +kernel
theorem dL_law_480 : decode cL_law 480 = .ok (.iconst 5, 1) := by decide +kernel
theorem dL_law_481 : decode cL_law 481 = .ok (.iadd, 1) := by decide +kernel
theorem dL_law_482 : decode cL_law 482 = .ok (.iaload, 1) := by decide +kernel
theorem dL_law_483 : decode cL_law 483 = .ok (.invokevirtual 44, 3) := by decide +kernel
theorem dL_law_486 : decode cL_law 486 = .ok (.aload_n 2, 1) := by decide +kernel
theorem dL_law_487 : decode cL_law 487 = .ok (.aload_n 0, 1) := by decide +kernel
theorem dL_law_488 : decode cL_law 488 = .ok (.iload_n 3, 1) := by decide +kernel
theorem dL_law_489 : decode cL_law 489 = .ok (.iconst 1, 1) := by decide +kernel
theorem dL_law_490 : decode cL_law 490 = .ok (.iadd, 1) := by decide +kernel
theorem dL_law_491 : decode cL_law 491 = .ok (.iaload, 1) := by decide +kernel
theorem dL_law_492 : decode cL_law 492 = .ok (.aload_n 0, 1) := by decide +kernel
theorem dL_law_493 : decode cL_law 493 = .ok (.iload_n 3, 1) := by decide +kernel
theorem dL_law_494 : decode cL_law 494 = .ok (.iconst 2, 1) := by decide +kernel
theorem dL_law_495 : decode cL_law 495 = .ok (.iadd, 1) := by decide +kernel
theorem dL_law_496 : decode cL_law 496 = .ok (.iaload, 1) := by decide +kernel
theorem dL_law_497 : decode cL_law 497 = .ok (.aload_n 0, 1) := by decide +kernel
theorem dL_law_498 : decode cL_law 498 = .ok (.iload_n 3, 1) := by decide +kernel
theorem dL_law_499 : decode cL_law 499 = .ok (.iconst 3, 1) := by decide +kernel
theorem dL_law_500 : decode cL_law 500 = .ok (.iadd, 1) := by decide +kernel
theorem dL_law_501 : decode cL_law 501 = .ok (.iaload, 1) := by decide +kernel
theorem dL_law_502 : decode cL_law 502 = .ok (.aload_n 0, 1) := by decide +kernel
theorem dL_law_503 : decode cL_law 503 = .ok (.iload_n 3, 1) := by decide +kernel
theorem dL_law_504 : decode cL_law 504 = .ok (.iconst 4, 1) := by decide +kernel
theorem dL_law_505 : decode cL_law 505 = .ok (.iadd, 1) := by decide +kernel
theorem dL_law_506 : decode cL_law 506 = .ok (.iaload, 1) := by decide +kernel
theorem dL_law_507 : decode cL_law 507 = .ok (.aload_n 0, 1) := by decide +kernel
theorem dL_law_508 : decode cL_law 508 = .ok (.iload_n 3, 1) := by decide +kernel
theorem dL_law_509 : decode cL_law 509 = .ok (.iconst 5, 1) := by decide +kernel
theorem dL_law_510 : decode cL_law 510 = .ok (.iadd, 1) := by decide +kernel
theorem dL_law_511 : decode cL_law 511 = .ok (.iaload, 1) := by decide +kernel
theorem dL_law_512 : decode cL_law 512 = .ok (.invokevirtual 48, 3) := by decide +kernel
theorem dL_law_515 : decode cL_law 515 = .ok (.if_icmp .eq 888, 3) := by decide +kernel
theorem dL_law_518 : decode cL_law 518 = .ok (.iconst 0, 1) := by decide +kernel
theorem dL_law_519 : decode cL_law 519 = .ok (.ireturn, 1) := by decide +kernel
theorem dL_law_520 : decode cL_law 520 = .ok (.aload_n 1, 1) := by decide +kernel
theorem dL_law_521 : decode cL_law 521 = .ok (.aload_n 0, 1) := by decide +kernel
theorem dL_law_522 : decode cL_law 522 = .ok (.iload_n 3, 1) := by decide +kernel
theorem dL_law_523 : decode cL_law 523 = .ok (.iconst 1, 1) := by decide +kernel
theorem dL_law_524 : decode cL_law 524 = .ok (.iadd, 1) := by decide +kernel
theorem dL_law_525 : decode cL_law 525 = .ok (.iaload, 1) := by decide +kernel
theorem dL_law_526 : decode cL_law 526 = .ok (.invokevirtual 49, 3) := by decide +kernel
theorem dL_law_529 : decode cL_law 529 = .ok (.aload_n 2, 1) := by decide +kernel
theorem dL_law_530 : decode cL_law 530 = .ok (.aload_n 0, 1) := by decide +kernel
theorem dL_law_531 : decode cL_law 531 = .ok (.iload_n 3, 1) := by decide +kernel
theorem dL_law_532 : decode cL_law 532 = .ok (.iconst 1, 1) := by decide +kernel
theorem dL_law_533 : decode cL_law 533 = .ok (.iadd, 1) := by decide +kernel
theorem dL_law_534 : decode cL_law 534 = .ok (.iaload, 1) := by decide +kernel
theorem dL_law_535 : decode cL_law 535 = .ok (.invokevirtual 52, 3) := by decide +kernel
theorem dL_law_538 : decode cL_law 538 = .ok (.if_icmp .eq 865, 3) := by decide +kernel
theorem dL_law_541 : decode cL_law 541 = .ok (.iconst 0, 1) := by decide +kernel
theorem dL_law_542 : decode cL_law 542 = .ok (.ireturn, 1) := by decide +kernel
theorem dL_law_543 : decode cL_law 543 = .ok (.aload_n 1, 1) := by decide +kernel
theorem dL_law_544 : decode cL_law 544 = .ok (.invokevirtual 53, 3) := by decide +kernel
theorem dL_law_547 : decode cL_law 547 = .ok (.aload_n 2, 1) := by decide +kernel
theorem dL_law_548 : decode cL_law 548 = .ok (.invokevirtual 57, 3) := by decide +kernel
theorem dL_law_551 : decode cL_law 551 = .ok (.if_icmp .eq 852, 3) := by decide +kernel
theorem dL_law_554 : decode cL_law 554 = .ok (.iconst 0, 1) := by decide +kernel
theorem dL_law_555 : decode cL_law 555 = .ok (.ireturn, 1) := by decide +kernel
theorem dL_law_556 : decode cL_law 556 = .ok (.aload_n 1, 1) := by decide +kernel
theorem dL_law_557 : decode cL_law 557 = .ok (.invokevirtual 58, 3) := by decide +kernel
theorem dL_law_560 : decode cL_law 560 = .ok (.aload_n 2, 1) := by decide +kernel
theorem dL_law_561 : decode cL_law 561 = .ok (.invokevirtual 61, 3) := by decide +kernel
theorem dL_law_564 : decode cL_law 564 = .ok (.if_icmp .eq 839, 3) := by decide +kernel
theorem dL_law_567 : decode cL_law 567 = .ok (.iconst 0, 1) := by decide +kernel
theorem dL_law_568 : decode cL_law 568 = .ok (.ireturn, 1) := by decide +kernel
theorem dL_law_569 : decode cL_law 569 = .ok (.aload_n 1, 1) := by decide +kernel
theorem dL_law_570 : decode cL_law 570 = .ok (.invokevirtual 62, 3) := by decide +kernel
theorem dL_law_573 : decode cL_law 573 = .ok (.aload_n 2, 1) := by decide +kernel
theorem dL_law_574 : decode cL_law 574 = .ok (.invokevirtual 65, 3) := by decide +kernel
theorem dL_law_577 : decode cL_law 577 = .ok (.if_icmp .eq 826, 3) := by decide +kernel
theorem dL_law_580 : decode cL_law 580 = .ok (.iconst 0, 1) := by decide +kernel
theorem dL_law_581 : decode cL_law 581 = .ok (.ireturn, 1) := by decide +kernel
theorem dL_law_582 : decode cL_law 582 = .ok (.aload_n 1, 1) := by decide +kernel
theorem dL_law_583 : decode cL_law 583 = .ok (.invokevirtual 66, 3) := by decide +kernel
theorem dL_law_586 : decode cL_law 586 = .ok (.aload_n 2, 1) := by decide +kernel
theorem dL_law_587 : decode cL_law 587 = .ok (.invokevirtual 69, 3) := by decide +kernel
theorem dL_law_590 : decode cL_law 590 = .ok (.if_icmp .eq 813, 3) := by decide +kernel
theorem dL_law_593 : decode cL_law 593 = .ok (.iconst 0, 1) := by decide +kernel
theorem dL_law_594 : decode cL_law 594 = .ok (.ireturn, 1) := by decide +kernel
theorem dL_law_595 : decode cL_law 595 = .ok (.aload_n 1, 1) := by decide +kernel
theorem dL_law_596 : decode cL_law 596 = .ok (.invokevirtual 70, 3) := by decide +kernel
theorem dL_law_599 : decode cL_law 599 = .ok (.aload_n 2, 1) := by decide +kernel
theorem dL_law_600 : decode cL_law 600 = .ok (.invokevirtual 73, 3) := by decide +kernel
theorem dL_law_603 : decode cL_law 603 = .ok (.if_icmp .eq 800, 3) := by decide +kernel
theorem dL_law_606 : decode cL_law 606 = .ok (.iconst 0, 1) := by decide +kernel
theorem dL_law_607 : decode cL_law 607 = .ok (.ireturn, 1) := by decide +kernel
theorem dL_law_608 : decode cL_law 608 = .ok (.aload_n 1, 1) := by decide +kernel
theorem dL_law_609 : decode cL_law 609 = .ok (.invokevirtual 74, 3) := by decide +kernel
theorem dL_law_612 : decode cL_law 612 = .ok (.aload_n 2, 1) := by decide +kernel
theorem dL_law_613 : decode cL_law 613 = .ok (.invokevirtual 77, 3) := by decide +kernel
theorem dL_law_616 : decode cL_law 616 = .ok (.if_icmp .eq 787, 3) := by decide +kernel
theorem dL_law_619 : decode cL_law 619 = .ok (.iconst 0, 1) := by decide +kernel
theorem dL_law_620 : decode cL_law 620 = .ok (.ireturn, 1) := by decide +kernel
theorem dL_law_621 : decode cL_law 621 = .ok (.aload_n 1, 1) := by decide +kernel
theorem dL_law_622 : decode cL_law 622 = .ok (.aload_n 0, 1) := by decide +kernel
theorem dL_law_623 : decode cL_law 623 = .ok (.iload_n 3, 1) := by decide +kernel
theorem dL_law_624 : decode cL_law 624 = .ok (.iconst 1, 1) := by decide +kernel
theorem dL_law_625 : decode cL_law 625 = .ok (.iadd, 1) := by decide +kernel
theorem dL_law_626 : decode cL_law 626 = .ok (.iaload, 1) := by decide +kernel
theorem dL_law_627 : decode cL_law 627 = .ok (.invokevirtual 78, 3) := by decide +kernel
theorem dL_law_630 : decode cL_law 630 = .ok (.aload_n 2, 1) := by decide +kernel
theorem dL_law_631 : decode cL_law 631 = .ok (.aload_n 0, 1) := by decide +kernel
theorem dL_law_632 : decode cL_law 632 = .ok (.iload_n 3, 1) := by decide +kernel
theorem dL_law_633 : decode cL_law 633 = .ok (.iconst 1, 1) := by decide +kernel
theorem dL_law_634 : decode cL_law 634 = .ok (.iadd, 1) := by decide +kernel
theorem dL_law_635 : decode cL_law 635 = .ok (.iaload, 1) := by decide +kernel
theorem dL_law_636 : decode cL_law 636 = .ok (.invokevirtual 81, 3) := by decide +kernel
theorem dL_law_639 : decode cL_law 639 = .ok (.if_icmp .eq 764, 3) := by decide +kernel
theorem dL_law_642 : decode cL_law 642 = .ok (.iconst 0, 1) := by decide +kernel
theorem dL_law_643 : decode cL_law 643 = .ok (.ireturn, 1) := by decide +kernel
theorem dL_law_644 : decode cL_law 644 = .ok (.aload_n 1, 1) := by decide +kernel
theorem dL_law_645 : decode cL_law 645 = .ok (.aload_n 0, 1) := by decide +kernel
theorem dL_law_646 : decode cL_law 646 = .ok (.iload_n 3, 1) := by decide +kernel
theorem dL_law_647 : decode cL_law 647 = .ok (.iconst 1, 1) := by decide +kernel
theorem dL_law_648 : decode cL_law 648 = .ok (.iadd, 1) := by decide +kernel
theorem dL_law_649 : decode cL_law 649 = .ok (.iaload, 1) := by decide +kernel
theorem dL_law_650 : decode cL_law 650 = .ok (.aload_n 0, 1) := by decide +kernel
theorem dL_law_651 : decode cL_law 651 = .ok (.iload_n 3, 1) := by decide +kernel
theorem dL_law_652 : decode cL_law 652 = .ok (.iconst 2, 1) := by decide +kernel
theorem dL_law_653 : decode cL_law 653 = .ok (.iadd, 1) := by decide +kernel
theorem dL_law_654 : decode cL_law 654 = .ok (.iaload, 1) := by decide +kernel
theorem dL_law_655 : decode cL_law 655 = .ok (.aload_n 0, 1) := by decide +kernel
theorem dL_law_656 : decode cL_law 656 = .ok (.iload_n 3, 1) := by decide +kernel
theorem dL_law_657 : decode cL_law 657 = .ok (.iconst 3, 1) := by decide +kernel
theorem dL_law_658 : decode cL_law 658 = .ok (.iadd, 1) := by decide +kernel
theorem dL_law_659 : decode cL_law 659 = .ok (.iaload, 1) := by decide +kernel
theorem dL_law_660 : decode cL_law 660 = .ok (.invokevirtual 82, 3) := by decide +kernel
theorem dL_law_663 : decode cL_law 663 = .ok (.aload_n 2, 1) := by decide +kernel
theorem dL_law_664 : decode cL_law 664 = .ok (.aload_n 0, 1) := by decide +kernel
theorem dL_law_665 : decode cL_law 665 = .ok (.iload_n 3, 1) := by decide +kernel
theorem dL_law_666 : decode cL_law 666 = .ok (.iconst 1, 1) := by decide +kernel
theorem dL_law_667 : decode cL_law 667 = .ok (.iadd, 1) := by decide +kernel
theorem dL_law_668 : decode cL_law 668 = .ok (.iaload, 1) := by decide +kernel
theorem dL_law_669 : decode cL_law 669 = .ok (.aload_n 0, 1) := by decide +kernel
theorem dL_law_670 : decode cL_law 670 = .ok (.iload_n 3, 1) := by decide +kernel
theorem dL_law_671 : decode cL_law 671 = .ok (.iconst 2, 1) := by decide +kernel
theorem dL_law_672 : decode cL_law 672 = .ok (.iadd, 1) := by decide +kernel
theorem dL_law_673 : decode cL_law 673 = .ok (.iaload, 1) := by decide +kernel
theorem dL_law_674 : decode cL_law 674 = .ok (.aload_n 0, 1) := by decide +kernel
theorem dL_law_675 : decode cL_law 675 = .ok (.iload_n 3, 1) := by decide +kernel
theorem dL_law_676 : decode cL_law 676 = .ok (.iconst 3, 1) := by decide +kernel
theorem dL_law_677 : decode cL_law 677 = .ok (.iadd, 1) := by decide +kernel
theorem dL_law_678 : decode cL_law 678 = .ok (.iaload, 1) := by decide +kernel
theorem dL_law_679 : decode cL_law 679 = .ok (.invokevirtual 85, 3) := by decide +kernel
theorem dL_law_682 : decode cL_law 682 = .ok (.if_icmp .eq 721, 3) := by decide +kernel
theorem dL_law_685 : decode cL_law 685 = .ok (.iconst 0, 1) := by decide +kernel
theorem dL_law_686 : decode cL_law 686 = .ok (.ireturn, 1) := by decide +kernel
theorem dL_law_687 : decode cL_law 687 = .ok (.aload_n 1, 1) := by decide +kernel
theorem dL_law_688 : decode cL_law 688 = .ok (.aload_n 0, 1) := by decide +kernel
theorem dL_law_689 : decode cL_law 689 = .ok (.iload_n 3, 1) := by decide +kernel
theorem dL_law_690 : decode cL_law 690 = .ok (.iconst 1, 1) := by decide +kernel
theorem dL_law_691 : decode cL_law 691 = .ok (.iadd, 1) := by decide +kernel
theorem dL_law_692 : decode cL_law 692 = .ok (.iaload, 1) := by decide +kernel
theorem dL_law_693 : decode cL_law 693 = .ok (.aload_n 0, 1) := by decide +kernel
theorem dL_law_694 : decode cL_law 694 = .ok (.iload_n 3, 1) := by decide +kernel
theorem dL_law_695 : decode cL_law 695 = .ok (.iconst 2, 1) := by decide +kernel
theorem dL_law_696 : decode cL_law 696 = .ok (.iadd, 1) := by decide +kernel
theorem dL_law_697 : decode cL_law 697 = .ok (.iaload, 1) := by decide +kernel
theorem dL_law_698 : decode cL_law 698 = .ok (.invokevirtual 86, 3) := by decide +kernel
theorem dL_law_701 : decode cL_law 701 = .ok (.aload_n 2, 1) := by decide +kernel
theorem dL_law_702 : decode cL_law 702 = .ok (.aload_n 0, 1) := by decide +kernel
theorem dL_law_703 : decode cL_law 703 = .ok (.iload_n 3, 1) := by decide +kernel
theorem dL_law_704 : decode cL_law 704 = .ok (.iconst 1, 1) := by decide +kernel
theorem dL_law_705 : decode cL_law 705 = .ok (.iadd, 1) := by decide +kernel
theorem dL_law_706 : decode cL_law 706 = .ok (.iaload, 1) := by decide +kernel
theorem dL_law_707 : decode cL_law 707 = .ok (.aload_n 0, 1) := by decide +kernel
theorem dL_law_708 : decode cL_law 708 = .ok (.iload_n 3, 1) := by decide +kernel
theorem dL_law_709 : decode cL_law 709 = .ok (.iconst 2, 1) := by decide +kernel
theorem dL_law_710 : decode cL_law 710 = .ok (.iadd, 1) := by decide +kernel
theorem dL_law_711 : decode cL_law 711 = .ok (.iaload, 1) := by decide +kernel
theorem dL_law_712 : decode cL_law 712 = .ok (.invokevirtual 89, 3) := by decide +kernel
theorem dL_law_715 : decode cL_law 715 = .ok (.if_icmp .eq 688, 3) := by decide +kernel
theorem dL_law_718 : decode cL_law 718 = .ok (.iconst 0, 1) := by decide +kernel
theorem dL_law_719 : decode cL_law 719 = .ok (.ireturn, 1) := by decide +kernel
theorem dL_law_720 : decode cL_law 720 = .ok (.aload_n 1, 1) := by decide +kernel
theorem dL_law_721 : decode cL_law 721 = .ok (.aload_n 0, 1) := by decide +kernel
theorem dL_law_722 : decode cL_law 722 = .ok (.iload_n 3, 1) := by decide +kernel
theorem dL_law_723 : decode cL_law 723 = .ok (.iconst 1, 1) := by decide +kernel
theorem dL_law_724 : decode cL_law 724 = .ok (.iadd, 1) := by decide +kernel
theorem dL_law_725 : decode cL_law 725 = .ok (.iaload, 1) := by decide +kernel
theorem dL_law_726 : decode cL_law 726 = .ok (.aload_n 0, 1) := by decide +kernel
theorem dL_law_727 : decode cL_law 727 = .ok (.iload_n 3, 1) := by decide +kernel
theorem dL_law_728 : decode cL_law 728 = .ok (.iconst 2, 1) := by decide +kernel
theorem dL_law_729 : decode cL_law 729 = .ok (.iadd, 1) := by decide +kernel
theorem dL_law_730 : decode cL_law 730 = .ok (.iaload, 1) := by decide +kernel
theorem dL_law_731 : decode cL_law 731 = .ok (.invokevirtual 90, 3) := by decide +kernel
theorem dL_law_734 : decode cL_law 734 = .ok (.aload_n 2, 1) := by decide +kernel
theorem dL_law_735 : decode cL_law 735 = .ok (.aload_n 0, 1) := by decide +kernel
theorem dL_law_736 : decode cL_law 736 = .ok (.iload_n 3, 1) := by decide +kernel
theorem dL_law_737 : decode cL_law 737 = .ok (.iconst 1, 1) := by decide +kernel
theorem dL_law_738 : decode cL_law 738 = .ok (.iadd, 1) := by decide +kernel
theorem dL_law_739 : decode cL_law 739 = .ok (.iaload, 1) := by decide +kernel
theorem dL_law_740 : decode cL_law 740 = .ok (.aload_n 0, 1) := by decide +kernel
theorem dL_law_741 : decode cL_law 741 = .ok (.iload_n 3, 1) := by decide +kernel
theorem dL_law_742 : decode cL_law 742 = .ok (.iconst 2, 1) := by decide +kernel
theorem dL_law_743 : decode cL_law 743 = .ok (.iadd, 1) := by decide +kernel
theorem dL_law_744 : decode cL_law 744 = .ok (.iaload, 1) := by decide +kernel
theorem dL_law_745 : decode cL_law 745 = .ok (.invokevirtual 93, 3) := by decide +kernel
theorem dL_law_748 : decode cL_law 748 = .ok (.if_icmp .eq 655, 3) := by decide +kernel
theorem dL_law_751 : decode cL_law 751 = .ok (.iconst 0, 1) := by decide +kernel
theorem dL_law_752 : decode cL_law 752 = .ok (.ireturn, 1) := by decide +kernel
theorem dL_law_753 : decode cL_law 753 = .ok (.aload_n 1, 1) := by decide +kernel
theorem dL_law_754 : decode cL_law 754 = .ok (.invokevirtual 94, 3) := by decide +kernel
theorem dL_law_757 : decode cL_law 757 = .ok (.aload_n 2, 1) := by decide +kernel
theorem dL_law_758 : decode cL_law 758 = .ok (.invokevirtual 97, 3) := by decide +kernel
theorem dL_law_761 : decode cL_law 761 = .ok (.if_icmp .eq 642, 3) := by decide +kernel
theorem dL_law_764 : decode cL_law 764 = .ok (.iconst 0, 1) := by decide +kernel
theorem dL_law_765 : decode cL_law 765 = .ok (.ireturn, 1) := by decide +kernel
theorem dL_law_766 : decode cL_law 766 = .ok (.aload_n 1, 1) := by decide +kernel
theorem dL_law_767 : decode cL_law 767 = .ok (.invokevirtual 98, 3) := by decide +kernel
theorem dL_law_770 : decode cL_law 770 = .ok (.aload_n 2, 1) := by decide +kernel
theorem dL_law_771 : decode cL_law 771 = .ok (.invokevirtual 101, 3) := by decide +kernel
theorem dL_law_774 : decode cL_law 774 = .ok (.if_icmp .eq 629, 3) := by decide +kernel
theorem dL_law_777 : decode cL_law 777 = .ok (.iconst 0, 1) := by decide +kernel
theorem dL_law_778 : decode cL_law 778 = .ok (.ireturn, 1) := by decide +kernel
theorem dL_law_779 : decode cL_law 779 = .ok (.aload_n 1, 1) := by decide +kernel
theorem dL_law_780 : decode cL_law 780 = .ok (.aload_n 0, 1) := by decide +kernel
theorem dL_law_781 : decode cL_law 781 = .ok (.iload_n 3, 1) := by decide +kernel
theorem dL_law_782 : decode cL_law 782 = .ok (.iconst 1, 1) := by decide +kernel
theorem dL_law_783 : decode cL_law 783 = .ok (.iadd, 1) := by decide +kernel
theorem dL_law_784 : decode cL_law 784 = .ok (.iaload, 1) := by decide +kernel
theorem dL_law_785 : decode cL_law 785 = .ok (.aload_n 0, 1) := by decide +kernel
theorem dL_law_786 : decode cL_law 786 = .ok (.iload_n 3, 1) := by decide +kernel
theorem dL_law_787 : decode cL_law 787 = .ok (.iconst 2, 1) := by decide +kernel
theorem dL_law_788 : decode cL_law 788 = .ok (.iadd, 1) := by decide +kernel
theorem dL_law_789 : decode cL_law 789 = .ok (.iaload, 1) := by decide +kernel
theorem dL_law_790 : decode cL_law 790 = .ok (.aload_n 0, 1) := by decide +kernel
theorem dL_law_791 : decode cL_law 791 = .ok (.iload_n 3, 1) := by decide +kernel
theorem dL_law_792 : decode cL_law 792 = .ok (.iconst 3, 1) := by decide +kernel
theorem dL_law_793 : decode cL_law 793 = .ok (.iadd, 1) := by decide +kernel
theorem dL_law_794 : decode cL_law 794 = .ok (.iaload, 1) := by decide +kernel
theorem dL_law_795 : decode cL_law 795 = .ok (.invokevirtual 102, 3) := by decide +kernel
theorem dL_law_798 : decode cL_law 798 = .ok (.aload_n 2, 1) := by decide +kernel
theorem dL_law_799 : decode cL_law 799 = .ok (.aload_n 0, 1) := by decide +kernel
theorem dL_law_800 : decode cL_law 800 = .ok (.iload_n 3, 1) := by decide +kernel
theorem dL_law_801 : decode cL_law 801 = .ok (.iconst 1, 1) := by decide +kernel
theorem dL_law_802 : decode cL_law 802 = .ok (.iadd, 1) := by decide +kernel
theorem dL_law_803 : decode cL_law 803 = .ok (.iaload, 1) := by decide +kernel
theorem dL_law_804 : decode cL_law 804 = .ok (.aload_n 0, 1) := by decide +kernel
theorem dL_law_805 : decode cL_law 805 = .ok (.iload_n 3, 1) := by decide +kernel
theorem dL_law_806 : decode cL_law 806 = .ok (.iconst 2, 1) := by decide +kernel
theorem dL_law_807 : decode cL_law 807 = .ok (.iadd, 1) := by decide +kernel
theorem dL_law_808 : decode cL_law 808 = .ok (.iaload, 1) := by decide +kernel
theorem dL_law_809 : decode cL_law 809 = .ok (.aload_n 0, 1) := by decide +kernel
theorem dL_law_810 : decode cL_law 810 = .ok (.iload_n 3, 1) := by decide +kernel
theorem dL_law_811 : decode cL_law 811 = .ok (.iconst 3, 1) := by decide +kernel
theorem dL_law_812 : decode cL_law 812 = .ok (.iadd, 1) := by decide +kernel
theorem dL_law_813 : decode cL_law 813 = .ok (.iaload, 1) := by decide +kernel
theorem dL_law_814 : decode cL_law 814 = .ok (.invokevirtual 105, 3) := by decide +kernel
theorem dL_law_817 : decode cL_law 817 = .ok (.if_icmp .eq 586, 3) := by decide +kernel
theorem dL_law_820 : decode cL_law 820 = .ok (.iconst 0, 1) := by decide +kernel
theorem dL_law_821 : decode cL_law 821 = .ok (.ireturn, 1) := by decide +kernel
theorem dL_law_822 : decode cL_law 822 = .ok (.aload_n 1, 1) := by decide +kernel
theorem dL_law_823 : decode cL_law 823 = .ok (.invokevirtual 106, 3) := by decide +kernel
theorem dL_law_826 : decode cL_law 826 = .ok (.aload_n 2, 1) := by decide +kernel
theorem dL_law_827 : decode cL_law 827 = .ok (.invokevirtual 109, 3) := by decide +kernel
theorem dL_law_830 : decode cL_law 830 = .ok (.if_icmp .eq 573, 3) := by decide +kernel
theorem dL_law_833 : decode cL_law 833 = .ok (.iconst 0, 1) := by decide +kernel
theorem dL_law_834 : decode cL_law 834 = .ok (.ireturn, 1) := by decide +kernel
theorem dL_law_835 : decode cL_law 835 = .ok (.aload_n 1, 1) := by decide +kernel
theorem dL_law_836 : decode cL_law 836 = .ok (.invokevirtual 110, 3) := by decide +kernel
theorem dL_law_839 : decode cL_law 839 = .ok (.aload_n 2, 1) := by decide +kernel
theorem dL_law_840 : decode cL_law 840 = .ok (.invokevirtual 113, 3) := by decide +kernel
theorem dL_law_843 : decode cL_law 843 = .ok (.if_icmp .eq 560, 3) := by decide +kernel
theorem dL_law_846 : decode cL_law 846 = .ok (.iconst 0, 1) := by decide +kernel
theorem dL_law_847 : decode cL_law 847 = .ok (.ireturn, 1) := by decide +kernel
theorem dL_law_848 : decode cL_law 848 = .ok (.aload_n 1, 1) := by decide +kernel
theorem dL_law_849 : decode cL_law 849 = .ok (.aload_n 0, 1) := by decide +kernel
theorem dL_law_850 : decode cL_law 850 = .ok (.iload_n 3, 1) := by decide +kernel
theorem dL_law_851 : decode cL_law 851 = .ok (.iconst 1, 1) := by decide +kernel
theorem dL_law_852 : decode cL_law 852 = .ok (.iadd, 1) := by decide +kernel
theorem dL_law_853 : decode cL_law 853 = .ok (.iaload, 1) := by decide +kernel
theorem dL_law_854 : decode cL_law 854 = .ok (.invokevirtual 114, 3) := by decide +kernel
theorem dL_law_857 : decode cL_law 857 = .ok (.aload_n 2, 1) := by decide +kernel
theorem dL_law_858 : decode cL_law 858 = .ok (.aload_n 0, 1) := by decide +kernel
theorem dL_law_859 : decode cL_law 859 = .ok (.iload_n 3, 1) := by decide +kernel
theorem dL_law_860 : decode cL_law 860 = .ok (.iconst 1, 1) := by decide +kernel
theorem dL_law_861 : decode cL_law 861 = .ok (.iadd, 1) := by decide +kernel
theorem dL_law_862 : decode cL_law 862 = .ok (.iaload, 1) := by decide +kernel
theorem dL_law_863 : decode cL_law 863 = .ok (.invokevirtual 117, 3) := by decide +kernel
theorem dL_law_866 : decode cL_law 866 = .ok (.if_icmp .eq 537, 3) := by decide +kernel
theorem dL_law_869 : decode cL_law 869 = .ok (.iconst 0, 1) := by decide +kernel
theorem dL_law_870 : decode cL_law 870 = .ok (.ireturn, 1) := by decide +kernel
theorem dL_law_871 : decode cL_law 871 = .ok (.aload_n 1, 1) := by decide +kernel
theorem dL_law_872 : decode cL_law 872 = .ok (.aload_n 0, 1) := by decide +kernel
theorem dL_law_873 : decode cL_law 873 = .ok (.iload_n 3, 1) := by decide +kernel
theorem dL_law_874 : decode cL_law 874 = .ok (.iconst 1, 1) := by decide +kernel
theorem dL_law_875 : decode cL_law 875 = .ok (.iadd, 1) := by decide +kernel
theorem dL_law_876 : decode cL_law 876 = .ok (.iaload, 1) := by decide +kernel
theorem dL_law_877 : decode cL_law 877 = .ok (.invokevirtual 118, 3) := by decide +kernel
theorem dL_law_880 : decode cL_law 880 = .ok (.aload_n 2, 1) := by decide +kernel
theorem dL_law_881 : decode cL_law 881 = .ok (.aload_n 0, 1) := by decide +kernel
theorem dL_law_882 : decode cL_law 882 = .ok (.iload_n 3, 1) := by decide +kernel
theorem dL_law_883 : decode cL_law 883 = .ok (.iconst 1, 1) := by decide +kernel
theorem dL_law_884 : decode cL_law 884 = .ok (.iadd, 1) := by decide +kernel
theorem dL_law_885 : decode cL_law 885 = .ok (.iaload, 1) := by decide +kernel
theorem dL_law_886 : decode cL_law 886 = .ok (.invokevirtual 121, 3) := by decide +kernel
theorem dL_law_889 : decode cL_law 889 = .ok (.if_icmp .eq 514, 3) := by decide +kernel
theorem dL_law_892 : decode cL_law 892 = .ok (.iconst 0, 1) := by decide +kernel
theorem dL_law_893 : decode cL_law 893 = .ok (.ireturn, 1) := by decide +kernel
theorem dL_law_894 : decode cL_law 894 = .ok (.aload_n 1, 1) := by decide +kernel
theorem dL_law_895 : decode cL_law 895 = .ok (.aload_n 0, 1) := by decide +kernel
theorem dL_law_896 : decode cL_law 896 = .ok (.iload_n 3, 1) := by decide +kernel
theorem dL_law_897 : decode cL_law 897 = .ok (.iconst 1, 1) := by decide +kernel
theorem dL_law_898 : decode cL_law 898 = .ok (.iadd, 1) := by decide +kernel
theorem dL_law_899 : decode cL_law 899 = .ok (.iaload, 1) := by decide +kernel
theorem dL_law_900 : decode cL_law 900 = .ok (.aload_n 0, 1) := by decide +kernel
theorem dL_law_901 : decode cL_law 901 = .ok (.iload_n 3, 1) := by decide +kernel
theorem dL_law_902 : decode cL_law 902 = .ok (.iconst 2, 1) := by decide +kernel
theorem dL_law_903 : decode cL_law 903 = .ok (.iadd, 1) := by decide +kernel
theorem dL_law_904 : decode cL_law 904 = .ok (.iaload, 1) := by decide +kernel
theorem dL_law_905 : decode cL_law 905 = .ok (.invokevirtual 122, 3) := by decide +kernel
theorem dL_law_908 : decode cL_law 908 = .ok (.aload_n 2, 1) := by decide +kernel
theorem dL_law_909 : decode cL_law 909 = .ok (.aload_n 0, 1) := by decide +kernel
theorem dL_law_910 : decode cL_law 910 = .ok (.iload_n 3, 1) := by decide +kernel
theorem dL_law_911 : decode cL_law 911 = .ok (.iconst 1, 1) := by decide +kernel
theorem dL_law_912 : decode cL_law 912 = .ok (.iadd, 1) := by decide +kernel
theorem dL_law_913 : decode cL_law 913 = .ok (.iaload, 1) := by decide +kernel
theorem dL_law_914 : decode cL_law 914 = .ok (.aload_n 0, 1) := by decide +kernel
theorem dL_law_915 : decode cL_law 915 = .ok (.iload_n 3, 1) := by decide +kernel
theorem dL_law_916 : decode cL_law 916 = .ok (.iconst 2, 1) := by decide +kernel
theorem dL_law_917 : decode cL_law 917 = .ok (.iadd, 1) := by decide +kernel
theorem dL_law_918 : decode cL_law 918 = .ok (.iaload, 1) := by decide +kernel
theorem dL_law_919 : decode cL_law 919 = .ok (.invokevirtual 125, 3) := by decide +kernel
theorem dL_law_922 : decode cL_law 922 = .ok (.if_icmp .eq 481, 3) := by decide +kernel
theorem dL_law_925 : decode cL_law 925 = .ok (.iconst 0, 1) := by decide +kernel
theorem dL_law_926 : decode cL_law 926 = .ok (.ireturn, 1) := by decide +kernel
theorem dL_law_927 : decode cL_law 927 = .ok (.aload_n 1, 1) := by decide +kernel
theorem dL_law_928 : decode cL_law 928 = .ok (.aload_n 0, 1) := by decide +kernel
theorem dL_law_929 : decode cL_law 929 = .ok (.iload_n 3, 1) := by decide +kernel
theorem dL_law_930 : decode cL_law 930 = .ok (.iconst 1, 1) := by decide +kernel
theorem dL_law_931 : decode cL_law 931 = .ok (.iadd, 1) := by decide +kernel
theorem dL_law_932 : decode cL_law 932 = .ok (.iaload, 1) := by decide +kernel
theorem dL_law_933 : decode cL_law 933 = .ok (.aload_n 0, 1) := by decide +kernel
theorem dL_law_934 : decode cL_law 934 = .ok (.iload_n 3, 1) := by decide +kernel
theorem dL_law_935 : decode cL_law 935 = .ok (.iconst 2, 1) := by decide +kernel
theorem dL_law_936 : decode cL_law 936 = .ok (.iadd, 1) := by decide +kernel
theorem dL_law_937 : decode cL_law 937 = .ok (.iaload, 1) := by decide +kernel
theorem dL_law_938 : decode cL_law 938 = .ok (.aload_n 0, 1) := by decide +kernel
theorem dL_law_939 : decode cL_law 939 = .ok (.iload_n 3, 1) := by decide +kernel
theorem dL_law_940 : decode cL_law 940 = .ok (.iconst 3, 1) := by decide +kernel
theorem dL_law_941 : decode cL_law 941 = .ok (.iadd, 1) := by decide +kernel
theorem dL_law_942 : decode cL_law 942 = .ok (.iaload, 1) := by decide +kernel
theorem dL_law_943 : decode cL_law 943 = .ok (.invokevirtual 126, 3) := by decide +kernel
theorem dL_law_946 : decode cL_law 946 = .ok (.aload_n 2, 1) := by decide +kernel
theorem dL_law_947 : decode cL_law 947 = .ok (.aload_n 0, 1) := by decide +kernel
theorem dL_law_948 : decode cL_law 948 = .ok (.iload_n 3, 1) := by decide +kernel
theorem dL_law_949 : decode cL_law 949 = .ok (.iconst 1, 1) := by decide +kernel
theorem dL_law_950 : decode cL_law 950 = .ok (.iadd, 1) := by decide +kernel
theorem dL_law_951 : decode cL_law 951 = .ok (.iaload, 1) := by decide +kernel
theorem dL_law_952 : decode cL_law 952 = .ok (.aload_n 0, 1) := by decide +kernel
theorem dL_law_953 : decode cL_law 953 = .ok (.iload_n 3, 1) := by decide +kernel
theorem dL_law_954 : decode cL_law 954 = .ok (.iconst 2, 1) := by decide +kernel
theorem dL_law_955 : decode cL_law 955 = .ok (.iadd, 1) := by decide +kernel
theorem dL_law_956 : decode cL_law 956 = .ok (.iaload, 1) := by decide +kernel
theorem dL_law_957 : decode cL_law 957 = .ok (.aload_n 0, 1) := by decide +kernel
theorem dL_law_958 : decode cL_law 958 = .ok (.iload_n 3, 1) := by decide +kernel
theorem dL_law_959 : decode cL_law 959 = .ok (.iconst 3, 1) := by decide +kernel
theorem dL_law_960 : decode cL_law 960 = .ok (.iadd, 1) := by decide +kernel
theorem dL_law_961 : decode cL_law 961 = .ok (.iaload, 1) := by decide +kernel
theorem dL_law_962 : decode cL_law 962 = .ok (.invokevirtual 129, 3) := by decide +kernel
theorem dL_law_965 : decode cL_law 965 = .ok (.if_icmp .eq 438, 3) := by decide +kernel
theorem dL_law_968 : decode cL_law 968 = .ok (.iconst 0, 1) := by decide +kernel
theorem dL_law_969 : decode cL_law 969 = .ok (.ireturn, 1) := by decide +kernel
theorem dL_law_970 : decode cL_law 970 = .ok (.aload_n 1, 1) := by decide +kernel
theorem dL_law_971 : decode cL_law 971 = .ok (.aload_n 0, 1) := by decide +kernel
theorem dL_law_972 : decode cL_law 972 = .ok (.iload_n 3, 1) := by decide +kernel
theorem dL_law_973 : decode cL_law 973 = .ok (.iconst 1, 1) := by decide +kernel
theorem dL_law_974 : decode cL_law 974 = .ok (.iadd, 1) := by decide +kernel
theorem dL_law_975 : decode cL_law 975 = .ok (.iaload, 1) := by decide +kernel
theorem dL_law_976 : decode cL_law 976 = .ok (.aload_n 0, 1) := by decide +kernel
theorem dL_law_977 : decode cL_law 977 = .ok (.iload_n 3, 1) := by decide +kernel
theorem dL_law_978 : decode cL_law 978 = .ok (.iconst 2, 1) := by decide +kernel
theorem dL_law_979 : decode cL_law 979 = .ok (.iadd, 1) := by decide +kernel
theorem dL_law_980 : decode cL_law 980 = .ok (.iaload, 1) := by decide +kernel
theorem dL_law_981 : decode cL_law 981 = .ok (.aload_n 0, 1) := by decide +kernel
theorem dL_law_982 : decode cL_law 982 = .ok (.iload_n 3, 1) := by decide +kernel
theorem dL_law_983 : decode cL_law 983 = .ok (.iconst 3, 1) := by decide +kernel
theorem dL_law_984 : decode cL_law 984 = .ok (.iadd, 1) := by decide +kernel
theorem dL_law_985 : decode cL_law 985 = .ok (.iaload, 1) := by decide +kernel
theorem dL_law_986 : decode cL_law 986 = .ok (.invokevirtual 130, 3) := by decide +kernel
theorem dL_law_989 : decode cL_law 989 = .ok (.aload_n 2, 1) := by decide +kernel
theorem dL_law_990 : decode cL_law 990 = .ok (.aload_n 0, 1) := by decide +kernel
theorem dL_law_991 : decode cL_law 991 = .ok (.iload_n 3, 1) := by decide +kernel
theorem dL_law_992 : decode cL_law 992 = .ok (.iconst 1, 1) := by decide +kernel
theorem dL_law_993 : decode cL_law 993 = .ok (.iadd, 1) := by decide +kernel
theorem dL_law_994 : decode cL_law 994 = .ok (.iaload, 1) := by decide +kernel
theorem dL_law_995 : decode cL_law 995 = .ok (.aload_n 0, 1) := by decide +kernel
theorem dL_law_996 : decode cL_law 996 = .ok (.iload_n 3, 1) := by decide +kernel
theorem dL_law_997 : decode cL_law 997 = .ok (.iconst 2, 1) := by decide +kernel
theorem dL_law_998 : decode cL_law 998 = .ok (.iadd, 1) := by decide +kernel
theorem dL_law_999 : decode cL_law 999 = .ok (.iaload, 1) := by decide +kernel
theorem dL_law_1000 : decode cL_law 1000 = .ok (.aload_n 0, 1) := by decide +kernel
theorem dL_law_1001 : decode cL_law 1001 = .ok (.iload_n 3, 1) := by decide +kernel
theorem dL_law_1002 : decode cL_law 1002 = .ok (.iconst 3, 1) := by decide +kernel
theorem dL_law_1003 : decode cL_law 1003 = .ok (.iadd, 1) := by decide +kernel
theorem dL_law_1004 : decode cL_law 1004 = .ok (.iaload, 1) := by decide +kernel
theorem dL_law_1005 : decode cL_law 1005 = .ok (.invokevirtual 133, 3) := by decide +kernel
theorem dL_law_1008 : decode cL_law 1008 = .ok (.if_icmp .eq 395, 3) := by decide +kernel
theorem dL_law_1011 : decode cL_law 1011 = .ok (.iconst 0, 1) := by decide +kernel
theorem dL_law_1012 : decode cL_law 1012 = .ok (.ireturn, 1) := by decide +kernel
theorem dL_law_1013 : decode cL_law 1013 = .ok (.aload_n 1, 1) := by decide +kernel
theorem dL_law_1014 : decode cL_law 1014 = .ok (.aload_n 0, 1) := by decide +kernel
theorem dL_law_1015 : decode cL_law 1015 = .ok (.iload_n 3, 1) := by decide +kernel
theorem dL_law_1016 : decode cL_law 1016 = .ok (.iconst 1, 1) := by decide +kernel
theorem dL_law_1017 : decode cL_law 1017 = .ok (.iadd, 1) := by decide +kernel
theorem dL_law_1018 : decode cL_law 1018 = .ok (.iaload, 1) := by decide +kernel
theorem dL_law_1019 : decode cL_law 1019 = .ok (.aload_n 0, 1) := by decide +kernel
theorem dL_law_1020 : decode cL_law 1020 = .ok (.iload_n 3, 1) := by decide +kernel
theorem dL_law_1021 : decode cL_law 1021 = .ok (.iconst 2, 1) := by decide +kernel
theorem dL_law_1022 : decode cL_law 1022 = .ok (.iadd, 1) := by decide +kernel
theorem dL_law_1023 : decode cL_law 1023 = .ok (.iaload, 1) := by decide +kernel
theorem dL_law_1024 : decode cL_law 1024 = .ok (.aload_n 0, 1) := by decide +kernel
theorem dL_law_1025 : decode cL_law 1025 = .ok (.iload_n 3, 1) := by decide +kernel
theorem dL_law_1026 : decode cL_law 1026 = .ok (.iconst 3, 1) := by decide +kernel
theorem dL_law_1027 : decode cL_law 1027 = .ok (.iadd, 1) := by decide +kernel
theorem dL_law_1028 : decode cL_law 1028 = .ok (.iaload, 1) := by decide +kernel
theorem dL_law_1029 : decode cL_law 1029 = .ok (.invokevirtual 134, 3) := by decide +kernel
theorem dL_law_1032 : decode cL_law 1032 = .ok (.aload_n 2, 1) := by decide +kernel
theorem dL_law_1033 : decode cL_law 1033 = .ok (.aload_n 0, 1) := by decide +kernel
theorem dL_law_1034 : decode cL_law 1034 = .ok (.iload_n 3, 1) := by decide +kernel
theorem dL_law_1035 : decode cL_law 1035 = .ok (.iconst 1, 1) := by decide +kernel
theorem dL_law_1036 : decode cL_law 1036 = .ok (.iadd, 1) := by decide +kernel
theorem dL_law_1037 : decode cL_law 1037 = .ok (.iaload, 1) := by decide +kernel
theorem dL_law_1038 : decode cL_law 1038 = .ok (.aload_n 0, 1) := by decide +kernel
theorem dL_law_1039 : decode cL_law 1039 = .ok (.iload_n 3, 1) := by decide +kernel
theorem dL_law_1040 : decode cL_law 1040 = .ok (.iconst 2, 1) := by decide +kernel
theorem dL_law_1041 : decode cL_law 1041 = .ok (.iadd, 1) := by decide +kernel
theorem dL_law_1042 : decode cL_law 1042 = .ok (.iaload, 1) := by decide +kernel
theorem dL_law_1043 : decode cL_law 1043 = .ok (.aload_n 0, 1) := by decide +kernel
theorem dL_law_1044 : decode cL_law 1044 = .ok (.iload_n 3, 1) := by decide +kernel
theorem dL_law_1045 : decode cL_law 1045 = .ok (.iconst 3, 1) := by decide +kernel
theorem dL_law_1046 : decode cL_law 1046 = .ok (.iadd, 1) := by decide +kernel
theorem dL_law_1047 : decode cL_law 1047 = .ok (.iaload, 1) := by decide +kernel
theorem dL_law_1048 : decode cL_law 1048 = .ok (.invokevirtual 137, 3) := by decide +kernel
theorem dL_law_1051 : decode cL_law 1051 = .ok (.if_icmp .eq 352, 3) := by decide +kernel
theorem dL_law_1054 : decode cL_law 1054 = .ok (.iconst 0, 1) := by decide +kernel
theorem dL_law_1055 : decode cL_law 1055 = .ok (.ireturn, 1) := by decide +kernel
theorem dL_law_1056 : decode cL_law 1056 = .ok (.aload_n 1, 1) := by decide +kernel
theorem dL_law_1057 : decode cL_law 1057 = .ok (.aload_n 0, 1) := by decide +kernel
theorem dL_law_1058 : decode cL_law 1058 = .ok (.iload_n 3, 1) := by decide +kernel
theorem dL_law_1059 : decode cL_law 1059 = .ok (.iconst 1, 1) := by decide +kernel
theorem dL_law_1060 : decode cL_law 1060 = .ok (.iadd, 1) := by decide +kernel
theorem dL_law_1061 : decode cL_law 1061 = .ok (.iaload, 1) := by decide +kernel
theorem dL_law_1062 : decode cL_law 1062 = .ok (.aload_n 0, 1) := by decide +kernel
theorem dL_law_1063 : decode cL_law 1063 = .ok (.iload_n 3, 1) := by decide +kernel
theorem dL_law_1064 : decode cL_law 1064 = .ok (.iconst 2, 1) := by decide +kernel
theorem dL_law_1065 : decode cL_law 1065 = .ok (.iadd, 1) := by decide +kernel
theorem dL_law_1066 : decode cL_law 1066 = .ok (.iaload, 1) := by decide +kernel
theorem dL_law_1067 : decode cL_law 1067 = .ok (.aload_n 0, 1) := by decide +kernel
theorem dL_law_1068 : decode cL_law 1068 = .ok (.iload_n 3, 1) := by decide +kernel
theorem dL_law_1069 : decode cL_law 1069 = .ok (.iconst 3, 1) := by decide +kernel
theorem dL_law_1070 : decode cL_law 1070 = .ok (.iadd, 1) := by decide +kernel
theorem dL_law_1071 : decode cL_law 1071 = .ok (.iaload, 1) := by decide +kernel
theorem dL_law_1072 : decode cL_law 1072 = .ok (.aload_n 0, 1) := by decide +kernel
theorem dL_law_1073 : decode cL_law 1073 = .ok (.iload_n 3, 1) := by decide +kernel
theorem dL_law_1074 : decode cL_law 1074 = .ok (.iconst 4, 1) := by decide +kernel
theorem dL_law_1075 : decode cL_law 1075 = .ok (.iadd, 1) := by decide +kernel
theorem dL_law_1076 : decode cL_law 1076 = .ok (.iaload, 1) := by decide +kernel
theorem dL_law_1077 : decode cL_law 1077 = .ok (.invokevirtual 138, 3) := by decide +kernel
theorem dL_law_1080 : decode cL_law 1080 = .ok (.aload_n 2, 1) := by decide +kernel
theorem dL_law_1081 : decode cL_law 1081 = .ok (.aload_n 0, 1) := by decide +kernel
theorem dL_law_1082 : decode cL_law 1082 = .ok (.iload_n 3, 1) := by decide +kernel
theorem dL_law_1083 : decode cL_law 1083 = .ok (.iconst 1, 1) := by decide +kernel
theorem dL_law_1084 : decode cL_law 1084 = .ok (.iadd, 1) := by decide +kernel
theorem dL_law_1085 : decode cL_law 1085 = .ok (.iaload, 1) := by decide +kernel
theorem dL_law_1086 : decode cL_law 1086 = .ok (.aload_n 0, 1) := by decide +kernel
theorem dL_law_1087 : decode cL_law 1087 = .ok (.iload_n 3, 1) := by decide +kernel
theorem dL_law_1088 : decode cL_law 1088 = .ok (.iconst 2, 1) := by decide +kernel
theorem dL_law_1089 : decode cL_law 1089 = .ok (.iadd, 1) := by decide +kernel
theorem dL_law_1090 : decode cL_law 1090 = .ok (.iaload, 1) := by decide +kernel
theorem dL_law_1091 : decode cL_law 1091 = .ok (.aload_n 0, 1) := by decide +kernel
theorem dL_law_1092 : decode cL_law 1092 = .ok (.iload_n 3, 1) := by decide +kernel
theorem dL_law_1093 : decode cL_law 1093 = .ok (.iconst 3, 1) := by decide +kernel
theorem dL_law_1094 : decode cL_law 1094 = .ok (.iadd, 1) := by decide +kernel
theorem dL_law_1095 : decode cL_law 1095 = .ok (.iaload, 1) := by decide +kernel
theorem dL_law_1096 : decode cL_law 1096 = .ok (.aload_n 0, 1) := by decide +kernel
theorem dL_law_1097 : decode cL_law 1097 = .ok (.iload_n 3, 1) := by decide +kernel
theorem dL_law_1098 : decode cL_law 1098 = .ok (.iconst 4, 1) := by decide +kernel
theorem dL_law_1099 : decode cL_law 1099 = .ok (.iadd, 1) := by decide +kernel
theorem dL_law_1100 : decode cL_law 1100 = .ok (.iaload, 1) := by decide +kernel
theorem dL_law_1101 : decode cL_law 1101 = .ok (.invokevirtual 142, 3) := by decide +kernel
theorem dL_law_1104 : decode cL_law 1104 = .ok (.if_icmp .eq 299, 3) := by decide +kernel
theorem dL_law_1107 : decode cL_law 1107 = .ok (.iconst 0, 1) := by decide +kernel
theorem dL_law_1108 : decode cL_law 1108 = .ok (.ireturn, 1) := by decide +kernel
theorem dL_law_1109 : decode cL_law 1109 = .ok (.aload_n 1, 1) := by decide +kernel
theorem dL_law_1110 : decode cL_law 1110 = .ok (.aload_n 0, 1) := by decide +kernel
theorem dL_law_1111 : decode cL_law 1111 = .ok (.iload_n 3, 1) := by decide +kernel
theorem dL_law_1112 : decode cL_law 1112 = .ok (.iconst 1, 1) := by decide +kernel
theorem dL_law_1113 : decode cL_law 1113 = .ok (.iadd, 1) := by decide +kernel
theorem dL_law_1114 : decode cL_law 1114 = .ok (.iaload, 1) := by decide +kernel
theorem dL_law_1115 : decode cL_law 1115 = .ok (.aload_n 0, 1) := by decide +kernel
theorem dL_law_1116 : decode cL_law 1116 = .ok (.iload_n 3, 1) := by decide +kernel
theorem dL_law_1117 : decode cL_law 1117 = .ok (.iconst 2, 1) := by decide +kernel
theorem dL_law_1118 : decode cL_law 1118 = .ok (.iadd, 1) := by decide +kernel
theorem dL_law_1119 : decode cL_law 1119 = .ok (.iaload, 1) := by decide +kernel
theorem dL_law_1120 : decode cL_law 1120 = .ok (.invokevirtual 143, 3) := by decide +kernel
theorem dL_law_1123 : decode cL_law 1123 = .ok (.aload_n 2, 1) := by decide +kernel
theorem dL_law_1124 : decode cL_law 1124 = .ok (.aload_n 0, 1) := by decide +kernel
theorem dL_law_1125 : decode cL_law 1125 = .ok (.iload_n 3, 1) := by decide +kernel
theorem dL_law_1126 : decode cL_law 1126 = .ok (.iconst 1, 1) := by decide +kernel
theorem dL_law_1127 : decode cL_law 1127 = .ok (.iadd, 1) := by decide +kernel
theorem dL_law_1128 : decode cL_law 1128 = .ok (.iaload, 1) := by decide +kernel
theorem dL_law_1129 : decode cL_law 1129 = .ok (.aload_n 0, 1) := by decide +kernel
theorem dL_law_1130 : decode cL_law 1130 = .ok (.iload_n 3, 1) := by decide +kernel
theorem dL_law_1131 : decode cL_law 1131 = .ok (.iconst 2, 1) := by decide +kernel
theorem dL_law_1132 : decode cL_law 1132 = .ok (.iadd, 1) := by decide +kernel
theorem dL_law_1133 : decode cL_law 1133 = .ok (.iaload, 1) := by decide +kernel
theorem dL_law_1134 : decode cL_law 1134 = .ok (.invokevirtual 146, 3) := by decide +kernel
theorem dL_law_1137 : decode cL_law 1137 = .ok (.if_icmp .eq 266, 3) := by decide +kernel
theorem dL_law_1140 : decode cL_law 1140 = .ok (.iconst 0, 1) := by decide +kernel
theorem dL_law_1141 : decode cL_law 1141 = .ok (.ireturn, 1) := by decide +kernel
theorem dL_law_1142 : decode cL_law 1142 = .ok (.aload_n 1, 1) := by decide +kernel
theorem dL_law_1143 : decode cL_law 1143 = .ok (.aload_n 0, 1) := by decide +kernel
theorem dL_law_1144 : decode cL_law 1144 = .ok (.iload_n 3, 1) := by decide +kernel
theorem dL_law_1145 : decode cL_law 1145 = .ok (.iconst 1, 1) := by decide +kernel
theorem dL_law_1146 : decode cL_law 1146 = .ok (.iadd, 1) := by decide +kernel
theorem dL_law_1147 : decode cL_law 1147 = .ok (.iaload, 1) := by decide +kernel
theorem dL_law_1148 : decode cL_law 1148 = .ok (.aload_n 0, 1) := by decide +kernel
theorem dL_law_1149 : decode cL_law 1149 = .ok (.iload_n 3, 1) := by decide +kernel
theorem dL_law_1150 : decode cL_law 1150 = .ok (.iconst 2, 1) := by decide +kernel
theorem dL_law_1151 : decode cL_law 1151 = .ok (.iadd, 1) := by decide +kernel
theorem dL_law_1152 : decode cL_law 1152 = .ok (.iaload, 1) := by decide +kernel
theorem dL_law_1153 : decode cL_law 1153 = .ok (.invokevirtual 147, 3) := by decide +kernel
theorem dL_law_1156 : decode cL_law 1156 = .ok (.aload_n 2, 1) := by decide +kernel
theorem dL_law_1157 : decode cL_law 1157 = .ok (.aload_n 0, 1) := by decide +kernel
theorem dL_law_1158 : decode cL_law 1158 = .ok (.iload_n 3, 1) := by decide +kernel
theorem dL_law_1159 : decode cL_law 1159 = .ok (.iconst 1, 1) := by decide +kernel
theorem dL_law_1160 : decode cL_law 1160 = .ok (.iadd, 1) := by decide +kernel
theorem dL_law_1161 : decode cL_law 1161 = .ok (.iaload, 1) := by decide +kernel
theorem dL_law_1162 : decode cL_law 1162 = .ok (.aload_n 0, 1) := by decide +kernel
theorem dL_law_1163 : decode cL_law 1163 = .ok (.iload_n 3, 1) := by decide +kernel
theorem dL_law_1164 : decode cL_law 1164 = .ok (.iconst 2, 1) := by decide +kernel
theorem dL_law_1165 : decode cL_law 1165 = .ok (.iadd, 1) := by decide +kernel
theorem dL_law_1166 : decode cL_law 1166 = .ok (.iaload, 1) := by decide +kernel
theorem dL_law_1167 : decode cL_law 1167 = .ok (.invokevirtual 150, 3) := by decide +kernel
theorem dL_law_1170 : decode cL_law 1170 = .ok (.if_icmp .eq 233, 3) := by decide +kernel
theorem dL_law_1173 : decode cL_law 1173 = .ok (.iconst 0, 1) := by decide +kernel
theorem dL_law_1174 : decode cL_law 1174 = .ok (.ireturn, 1) := by decide +kernel
theorem dL_law_1175 : decode cL_law 1175 = .ok (.aload_n 1, 1) := by decide +kernel
theorem dL_law_1176 : decode cL_law 1176 = .ok (.aload_n 0, 1) := by decide +kernel
theorem dL_law_1177 : decode cL_law 1177 = .ok (.iload_n 3, 1) := by decide +kernel
theorem dL_law_1178 : decode cL_law 1178 = .ok (.iconst 1, 1) := by decide +kernel
theorem dL_law_1179 : decode cL_law 1179 = .ok (.iadd, 1) := by decide +kernel
theorem dL_law_1180 : decode cL_law 1180 = .ok (.iaload, 1) := by decide +kernel
theorem dL_law_1181 : decode cL_law 1181 = .ok (.invokevirtual 151, 3) := by decide +kernel
theorem dL_law_1184 : decode cL_law 1184 = .ok (.aload_n 2, 1) := by decide +kernel
theorem dL_law_1185 : decode cL_law 1185 = .ok (.aload_n 0, 1) := by decide +kernel
theorem dL_law_1186 : decode cL_law 1186 = .ok (.iload_n 3, 1) := by decide +kernel
theorem dL_law_1187 : decode cL_law 1187 = .ok (.iconst 1, 1) := by decide +kernel
theorem dL_law_1188 : decode cL_law 1188 = .ok (.iadd, 1) := by decide +kernel
theorem dL_law_1189 : decode cL_law 1189 = .ok (.iaload, 1) := by decide +kernel
theorem dL_law_1190 : decode cL_law 1190 = .ok (.invokevirtual 154, 3) := by decide +kernel
theorem dL_law_1193 : decode cL_law 1193 = .ok (.if_icmp .eq 210, 3) := by decide +kernel
theorem dL_law_1196 : decode cL_law 1196 = .ok (.iconst 0, 1) := by decide +kernel
theorem dL_law_1197 : decode cL_law 1197 = .ok (.ireturn, 1) := by decide +kernel
theorem dL_law_1198 : decode cL_law 1198 = .ok (.aload_n 1, 1) := by decide +kernel
theorem dL_law_1199 : decode cL_law 1199 = .ok (.aload_n 0, 1) := by decide +kernel
theorem dL_law_1200 : decode cL_law 1200 = .ok (.iload_n 3, 1) := by decide +kernel
theorem dL_law_1201 : decode cL_law 1201 = .ok (.iconst 1, 1) := by decide +kernel
theorem dL_law_1202 : decode cL_law 1202 = .ok (.iadd, 1) := by decide +kernel
theorem dL_law_1203 : decode cL_law 1203 = .ok (.iaload, 1) := by decide +kernel
theorem dL_law_1204 : decode cL_law 1204 = .ok (.aload_n 0, 1) := by decide +kernel
theorem dL_law_1205 : decode cL_law 1205 = .ok (.iload_n 3, 1) := by decide +kernel
theorem dL_law_1206 : decode cL_law 1206 = .ok (.iconst 2, 1) := by decide +kernel
theorem dL_law_1207 : decode cL_law 1207 = .ok (.iadd, 1) := by decide +kernel
theorem dL_law_1208 : decode cL_law 1208 = .ok (.iaload, 1) := by decide +kernel
theorem dL_law_1209 : decode cL_law 1209 = .ok (.invokevirtual 155, 3) := by decide +kernel
theorem dL_law_1212 : decode cL_law 1212 = .ok (.aload_n 2, 1) := by decide +kernel
theorem dL_law_1213 : decode cL_law 1213 = .ok (.aload_n 0, 1) := by decide +kernel
theorem dL_law_1214 : decode cL_law 1214 = .ok (.iload_n 3, 1) := by decide +kernel
theorem dL_law_1215 : decode cL_law 1215 = .ok (.iconst 1, 1) := by decide +kernel
theorem dL_law_1216 : decode cL_law 1216 = .ok (.iadd, 1) := by decide +kernel
theorem dL_law_1217 : decode cL_law 1217 = .ok (.iaload, 1) := by decide +kernel
theorem dL_law_1218 : decode cL_law 1218 = .ok (.aload_n 0, 1) := by decide +kernel
theorem dL_law_1219 : decode cL_law 1219 = .ok (.iload_n 3, 1) := by decide +kernel
theorem dL_law_1220 : decode cL_law 1220 = .ok (.iconst 2, 1) := by decide +kernel
theorem dL_law_1221 : decode cL_law 1221 = .ok (.iadd, 1) := by decide +kernel
theorem dL_law_1222 : decode cL_law 1222 = .ok (.iaload, 1) := by decide +kernel
theorem dL_law_1223 : decode cL_law 1223 = .ok (.invokevirtual 159, 3) := by decide +kernel
theorem dL_law_1226 : decode cL_law 1226 = .ok (.lcmp, 1) := by decide +kernel
theorem dL_law_1227 : decode cL_law 1227 = .ok (.ifCond .eq 176, 3) := by decide +kernel
theorem dL_law_1230 : decode cL_law 1230 = .ok (.iconst 0, 1) := by decide +kernel
theorem dL_law_1231 : decode cL_law 1231 = .ok (.ireturn, 1) := by decide +kernel
theorem dL_law_1232 : decode cL_law 1232 = .ok (.aload_n 1, 1) := by decide +kernel
theorem dL_law_1233 : decode cL_law 1233 = .ok (.aload_n 0, 1) := by decide +kernel
theorem dL_law_1234 : decode cL_law 1234 = .ok (.iload_n 3, 1) := by decide +kernel
theorem dL_law_1235 : decode cL_law 1235 = .ok (.iconst 1, 1) := by decide +kernel
theorem dL_law_1236 : decode cL_law 1236 = .ok (.iadd, 1) := by decide +kernel
theorem dL_law_1237 : decode cL_law 1237 = .ok (.iaload, 1) := by decide +kernel
theorem dL_law_1238 : decode cL_law 1238 = .ok (.invokevirtual 160, 3) := by decide +kernel
theorem dL_law_1241 : decode cL_law 1241 = .ok (.aload_n 2, 1) := by decide +kernel
theorem dL_law_1242 : decode cL_law 1242 = .ok (.aload_n 0, 1) := by decide +kernel
theorem dL_law_1243 : decode cL_law 1243 = .ok (.iload_n 3, 1) := by decide +kernel
theorem dL_law_1244 : decode cL_law 1244 = .ok (.iconst 1, 1) := by decide +kernel
theorem dL_law_1245 : decode cL_law 1245 = .ok (.iadd, 1) := by decide +kernel
theorem dL_law_1246 : decode cL_law 1246 = .ok (.iaload, 1) := by decide +kernel
theorem dL_law_1247 : decode cL_law 1247 = .ok (.invokevirtual 163, 3) := by decide +kernel
theorem dL_law_1250 : decode cL_law 1250 = .ok (.if_icmp .eq 153, 3) := by decide +kernel
theorem dL_law_1253 : decode cL_law 1253 = .ok (.iconst 0, 1) := by decide +kernel
theorem dL_law_1254 : decode cL_law 1254 = .ok (.ireturn, 1) := by decide +kernel
theorem dL_law_1255 : decode cL_law 1255 = .ok (.aload_n 1, 1) := by decide +kernel
theorem dL_law_1256 : decode cL_law 1256 = .ok (.aload_n 0, 1) := by decide +kernel
theorem dL_law_1257 : decode cL_law 1257 = .ok (.iload_n 3, 1) := by decide +kernel
theorem dL_law_1258 : decode cL_law 1258 = .ok (.iconst 1, 1) := by decide +kernel
theorem dL_law_1259 : decode cL_law 1259 = .ok (.iadd, 1) := by decide +kernel
theorem dL_law_1260 : decode cL_law 1260 = .ok (.iaload, 1) := by decide +kernel
theorem dL_law_1261 : decode cL_law 1261 = .ok (.aload_n 0, 1) := by decide +kernel
theorem dL_law_1262 : decode cL_law 1262 = .ok (.iload_n 3, 1) := by decide +kernel
theorem dL_law_1263 : decode cL_law 1263 = .ok (.iconst 2, 1) := by decide +kernel
theorem dL_law_1264 : decode cL_law 1264 = .ok (.iadd, 1) := by decide +kernel
theorem dL_law_1265 : decode cL_law 1265 = .ok (.iaload, 1) := by decide +kernel
theorem dL_law_1266 : decode cL_law 1266 = .ok (.invokevirtual 164, 3) := by decide +kernel
theorem dL_law_1269 : decode cL_law 1269 = .ok (.aload_n 2, 1) := by decide +kernel
theorem dL_law_1270 : decode cL_law 1270 = .ok (.aload_n 0, 1) := by decide +kernel
theorem dL_law_1271 : decode cL_law 1271 = .ok (.iload_n 3, 1) := by decide +kernel
theorem dL_law_1272 : decode cL_law 1272 = .ok (.iconst 1, 1) := by decide +kernel
theorem dL_law_1273 : decode cL_law 1273 = .ok (.iadd, 1) := by decide +kernel
theorem dL_law_1274 : decode cL_law 1274 = .ok (.iaload, 1) := by decide +kernel
theorem dL_law_1275 : decode cL_law 1275 = .ok (.aload_n 0, 1) := by decide +kernel
theorem dL_law_1276 : decode cL_law 1276 = .ok (.iload_n 3, 1) := by decide +kernel
theorem dL_law_1277 : decode cL_law 1277 = .ok (.iconst 2, 1) := by decide +kernel
theorem dL_law_1278 : decode cL_law 1278 = .ok (.iadd, 1) := by decide +kernel
theorem dL_law_1279 : decode cL_law 1279 = .ok (.iaload, 1) := by decide +kernel
theorem dL_law_1280 : decode cL_law 1280 = .ok (.invokevirtual 167, 3) := by decide +kernel
theorem dL_law_1283 : decode cL_law 1283 = .ok (.if_icmp .eq 120, 3) := by decide +kernel
theorem dL_law_1286 : decode cL_law 1286 = .ok (.iconst 0, 1) := by decide +kernel
theorem dL_law_1287 : decode cL_law 1287 = .ok (.ireturn, 1) := by decide +kernel
theorem dL_law_1288 : decode cL_law 1288 = .ok (.aload_n 1, 1) := by decide +kernel
theorem dL_law_1289 : decode cL_law 1289 = .ok (.aload_n 0, 1) := by decide +kernel
theorem dL_law_1290 : decode cL_law 1290 = .ok (.iload_n 3, 1) := by decide +kernel
theorem dL_law_1291 : decode cL_law 1291 = .ok (.iconst 1, 1) := by decide +kernel
theorem dL_law_1292 : decode cL_law 1292 = .ok (.iadd, 1) := by decide +kernel
theorem dL_law_1293 : decode cL_law 1293 = .ok (.iaload, 1) := by decide +kernel
theorem dL_law_1294 : decode cL_law 1294 = .ok (.aload_n 0, 1) := by decide +kernel
theorem dL_law_1295 : decode cL_law 1295 = .ok (.iload_n 3, 1) := by decide +kernel
theorem dL_law_1296 : decode cL_law 1296 = .ok (.iconst 2, 1) := by decide +kernel
theorem dL_law_1297 : decode cL_law 1297 = .ok (.iadd, 1) := by decide +kernel
theorem dL_law_1298 : decode cL_law 1298 = .ok (.iaload, 1) := by decide +kernel
theorem dL_law_1299 : decode cL_law 1299 = .ok (.invokevirtual 168, 3) := by decide +kernel
theorem dL_law_1302 : decode cL_law 1302 = .ok (.aload_n 2, 1) := by decide +kernel
theorem dL_law_1303 : decode cL_law 1303 = .ok (.aload_n 0, 1) := by decide +kernel
theorem dL_law_1304 : decode cL_law 1304 = .ok (.iload_n 3, 1) := by decide +kernel
theorem dL_law_1305 : decode cL_law 1305 = .ok (.iconst 1, 1) := by decide +kernel
theorem dL_law_1306 : decode cL_law 1306 = .ok (.iadd, 1) := by decide +kernel
theorem dL_law_1307 : decode cL_law 1307 = .ok (.iaload, 1) := by decide +kernel
theorem dL_law_1308 : decode cL_law 1308 = .ok (.aload_n 0, 1) := by decide +kernel
theorem dL_law_1309 : decode cL_law 1309 = .ok (.iload_n 3, 1) := by decide +kernel
theorem dL_law_1310 : decode cL_law 1310 = .ok (.iconst 2, 1) := by decide +kernel
theorem dL_law_1311 : decode cL_law 1311 = .ok (.iadd, 1) := by decide +kernel
theorem dL_law_1312 : decode cL_law 1312 = .ok (.iaload, 1) := by decide +kernel
theorem dL_law_1313 : decode cL_law 1313 = .ok (.invokevirtual 171, 3) := by decide +kernel
theorem dL_law_1316 : decode cL_law 1316 = .ok (.if_icmp .eq 87, 3) := by decide +kernel
theorem dL_law_1319 : decode cL_law 1319 = .ok (.iconst 0, 1) := by decide +kernel
theorem dL_law_1320 : decode cL_law 1320 = .ok (.ireturn, 1) := by decide +kernel
theorem dL_law_1321 : decode cL_law 1321 = .ok (.aload_n 1, 1) := by decide +kernel
theorem dL_law_1322 : decode cL_law 1322 = .ok (.aload_n 0, 1) := by decide +kernel
theorem dL_law_1323 : decode cL_law 1323 = .ok (.iload_n 3, 1) := by decide +kernel
theorem dL_law_1324 : decode cL_law 1324 = .ok (.iconst 1, 1) := by decide +kernel
theorem dL_law_1325 : decode cL_law 1325 = .ok (.iadd, 1) := by decide +kernel
theorem dL_law_1326 : decode cL_law 1326 = .ok (.iaload, 1) := by decide +kernel
theorem dL_law_1327 : decode cL_law 1327 = .ok (.invokevirtual 172, 3) := by decide +kernel
theorem dL_law_1330 : decode cL_law 1330 = .ok (.aload_n 2, 1) := by decide +kernel
theorem dL_law_1331 : decode cL_law 1331 = .ok (.aload_n 0, 1) := by decide +kernel
theorem dL_law_1332 : decode cL_law 1332 = .ok (.iload_n 3, 1) := by decide +kernel
theorem dL_law_1333 : decode cL_law 1333 = .ok (.iconst 1, 1) := by decide +kernel
theorem dL_law_1334 : decode cL_law 1334 = .ok (.iadd, 1) := by decide +kernel
theorem dL_law_1335 : decode cL_law 1335 = .ok (.iaload, 1) := by decide +kernel
theorem dL_law_1336 : decode cL_law 1336 = .ok (.invokevirtual 175, 3) := by decide +kernel
theorem dL_law_1339 : decode cL_law 1339 = .ok (.if_icmp .eq 64, 3) := by decide +kernel
theorem dL_law_1342 : decode cL_law 1342 = .ok (.iconst 0, 1) := by decide +kernel
theorem dL_law_1343 : decode cL_law 1343 = .ok (.ireturn, 1) := by decide +kernel
theorem dL_law_1344 : decode cL_law 1344 = .ok (.aload_n 1, 1) := by decide +kernel
theorem dL_law_1345 : decode cL_law 1345 = .ok (.aload_n 0, 1) := by decide +kernel
theorem dL_law_1346 : decode cL_law 1346 = .ok (.iload_n 3, 1) := by decide +kernel
theorem dL_law_1347 : decode cL_law 1347 = .ok (.iconst 1, 1) := by decide +kernel
theorem dL_law_1348 : decode cL_law 1348 = .ok (.iadd, 1) := by decide +kernel
theorem dL_law_1349 : decode cL_law 1349 = .ok (.iaload, 1) := by decide +kernel
theorem dL_law_1350 : decode cL_law 1350 = .ok (.invokevirtual 176, 3) := by decide +kernel
theorem dL_law_1353 : decode cL_law 1353 = .ok (.aload_n 2, 1) := by decide +kernel
theorem dL_law_1354 : decode cL_law 1354 = .ok (.aload_n 0, 1) := by decide +kernel
theorem dL_law_1355 : decode cL_law 1355 = .ok (.iload_n 3, 1) := by decide +kernel
theorem dL_law_1356 : decode cL_law 1356 = .ok (.iconst 1, 1) := by decide +kernel
theorem dL_law_1357 : decode cL_law 1357 = .ok (.iadd, 1) := by decide +kernel
theorem dL_law_1358 : decode cL_law 1358 = .ok (.iaload, 1) := by decide +kernel
theorem dL_law_1359 : decode cL_law 1359 = .ok (.invokevirtual 179, 3) := by decide +kernel
theorem dL_law_1362 : decode cL_law 1362 = .ok (.if_icmp .eq 41, 3) := by decide +kernel
theorem dL_law_1365 : decode cL_law 1365 = .ok (.iconst 0, 1) := by decide +kernel
theorem dL_law_1366 : decode cL_law 1366 = .ok (.ireturn, 1) := by decide +kernel
theorem dL_law_1367 : decode cL_law 1367 = .ok (.aload_n 1, 1) := by decide +kernel
theorem dL_law_1368 : decode cL_law 1368 = .ok (.aload_n 0, 1) := by decide +kernel
theorem dL_law_1369 : decode cL_law 1369 = .ok (.iload_n 3, 1) := by decide +kernel
theorem dL_law_1370 : decode cL_law 1370 = .ok (.iconst 1, 1) := by decide +kernel
theorem dL_law_1371 : decode cL_law 1371 = .ok (.iadd, 1) := by decide +kernel
theorem dL_law_1372 : decode cL_law 1372 = .ok (.iaload, 1) := by decide +kernel
theorem dL_law_1373 : decode cL_law 1373 = .ok (.invokevirtual 180, 3) := by decide +kernel
theorem dL_law_1376 : decode cL_law 1376 = .ok (.aload_n 2, 1) := by decide +kernel
theorem dL_law_1377 : decode cL_law 1377 = .ok (.aload_n 0, 1) := by decide +kernel
theorem dL_law_1378 : decode cL_law 1378 = .ok (.iload_n 3, 1) := by decide +kernel
theorem dL_law_1379 : decode cL_law 1379 = .ok (.iconst 1, 1) := by decide +kernel
theorem dL_law_1380 : decode cL_law 1380 = .ok (.iadd, 1) := by decide +kernel
theorem dL_law_1381 : decode cL_law 1381 = .ok (.iaload, 1) := by decide +kernel
theorem dL_law_1382 : decode cL_law 1382 = .ok (.invokevirtual 183, 3) := by decide +kernel
theorem dL_law_1385 : decode cL_law 1385 = .ok (.if_icmp .eq 18, 3) := by decide +kernel
theorem dL_law_1388 : decode cL_law 1388 = .ok (.iconst 0, 1) := by decide +kernel
theorem dL_law_1389 : decode cL_law 1389 = .ok (.ireturn, 1) := by decide +kernel
theorem dL_law_1390 : decode cL_law 1390 = .ok (.aload_n 1, 1) := by decide +kernel
theorem dL_law_1391 : decode cL_law 1391 = .ok (.invokevirtual 184, 3) := by decide +kernel
theorem dL_law_1394 : decode cL_law 1394 = .ok (.aload_n 2, 1) := by decide +kernel
theorem dL_law_1395 : decode cL_law 1395 = .ok (.invokevirtual 187, 3) := by decide +kernel
theorem dL_law_1398 : decode cL_law 1398 = .ok (.if_icmp .eq 5, 3) := by decide +kernel
theorem dL_law_1401 : decode cL_law 1401 = .ok (.iconst 0, 1) := by decide +kernel
theorem dL_law_1402 : decode cL_law 1402 = .ok (.ireturn, 1) := by decide +kernel
theorem dL_law_1403 : decode cL_law 1403 = .ok (.iinc 3 6, 3) := by decide +kernel
theorem dL_law_1406 : decode cL_law 1406 = .ok (.goto (-1388), 3) := by decide +kernel
theorem dL_law_1409 : decode cL_law 1409 = .ok (.iconst 1, 1) := by decide +kernel
theorem dL_law_1410 : decode cL_law 1410 = .ok (.ireturn, 1) := by decide +kernel
