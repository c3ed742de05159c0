theorem dL_at_0 : decode cL_at 0 = .ok (.iload_n 1, 1) := by decide +kernel
theorem dL_at_1 : decode cL_at 1 = .ok (.aload_n 0, 1) := by decide +kernel
theorem dL_at_2 : decode cL_at 2 = .ok (.arraylength, 1) := by decide +kernel
theorem dL_at_3 : decode cL_at 3 = .ok (.if_icmp .ge 9, 3) := by decide +kernel
theorem dL_at_6 : decode cL_at 6 = .ok (.aload_n 0, 1) := by decide +kernel
theorem dL_at_7 : decode cL_at 7 = .ok (.iload_n 1, 1) := by decide +kernel
theorem dL_at_8 : decode cL_at 8 = .ok (.iaload, 1) := by decide +kernel
theorem dL_at_9 : decode cL_at 9 = .ok (.goto 4, 3) := by decide +kernel
theorem dL_at_12 : decode cL_at 12 = .ok (.iconst 0, 1) := by decide +kernel
theorem dL_at_13 : decode cL_at 13 = .ok (.ireturn, 1) := by decide +kernel
theorem dL_some_0 : decode cL_some 0 = .ok (.iload_n 0, 1) := by decide +kernel
theorem dL_some_1 : decode cL_some 1 = .ok (.iload_n 1, 1) := by decide +kernel
theorem dL_some_2 : decode cL_some 2 = .ok (.irem, 1) := by decide +kernel
theorem dL_some_3 : decode cL_some 3 = .ok (.istore_n 2, 1) := by decide +kernel
theorem dL_some_4 : decode cL_some 4 = .ok (.iload_n 2, 1) := by decide +kernel
theorem dL_some_5 : decode cL_some 5 = .ok (.ifCond .ge 9, 3) := by decide +kernel
theorem dL_some_8 : decode cL_some 8 = .ok (.iload_n 2, 1) := by decide +kernel
theorem dL_some_9 : decode cL_some 9 = .ok (.iload_n 1, 1) := by decide +kernel
theorem dL_some_10 : decode cL_some 10 = .ok (.iadd, 1) := by decide +kernel
theorem dL_some_11 : decode cL_some 11 = .ok (.goto 4, 3) := by decide +kernel
theorem dL_some_14 : decode cL_some 14 = .ok (.iload_n 2, 1) := by decide +kernel
theorem dL_some_15 : decode cL_some 15 = .ok (.ireturn, 1) := by decide +kernel
theorem dL_ask_0 : decode cL_ask 0 = .ok (.iload_n 1, 1) := by decide +kernel
theorem dL_ask_1 : decode cL_ask 1 = .ok (.tableswitch 425 65 117 #[409, 425, 371, 420, 425, 425, 425, 425, 425, 425, 425, 425, 425, 425, 425, 425, 349, 425, 379, 387, 425, 398, 425, 425, 425, 425, 425, 425, 425, 425, 425, 425, 280, 425, 227, 250, 425, 425, 425, 425, 425, 425, 294, 266, 308, 425, 425, 425, 360, 332, 324, 425, 316], 227) := by decide +kernel
theorem dL_ask_228 : decode cL_ask 228 = .ok (.aload_n 0, 1) := by decide +kernel
theorem dL_ask_229 : decode cL_ask 229 = .ok (.aload_n 2, 1) := by decide +kernel
theorem dL_ask_230 : decode cL_ask 230 = .ok (.iconst 0, 1) := by decide +kernel
theorem dL_ask_231 : decode cL_ask 231 = .ok (.iaload, 1) := by decide +kernel
theorem dL_ask_232 : decode cL_ask 232 = .ok (.aload_n 2, 1) := by decide +kernel
theorem dL_ask_233 : decode cL_ask 233 = .ok (.iconst 1, 1) := by decide +kernel
theorem dL_ask_234 : decode cL_ask 234 = .ok (.iaload, 1) := by decide +kernel
theorem dL_ask_235 : decode cL_ask 235 = .ok (.i2c, 1) := by decide +kernel
theorem dL_ask_236 : decode cL_ask 236 = .ok (.aload_n 2, 1) := by decide +kernel
theorem dL_ask_237 : decode cL_ask 237 = .ok (.iconst 2, 1) := by decide +kernel
theorem dL_ask_238 : decode cL_ask 238 = .ok (.iaload, 1) := by decide +kernel
theorem dL_ask_239 : decode cL_ask 239 = .ok (.invokevirtual 7, 3) := by decide +kernel
theorem dL_ask_242 : decode cL_ask 242 = .ok (.ifCond .eq 7, 3) := by decide +kernel
theorem dL_ask_245 : decode cL_ask 245 = .ok (.iconst 1, 1) := by decide +kernel
theorem dL_ask_246 : decode cL_ask 246 = .ok (.goto 4, 3) := by decide +kernel
theorem dL_ask_249 : decode cL_ask 249 = .ok (.iconst 0, 1) := by decide +kernel
theorem dL_ask_250 : decode cL_ask 250 = .ok (.ireturn, 1) := by decide +kernel
theorem dL_ask_251 : decode cL_ask 251 = .ok (.aload_n 0, 1) := by decide +kernel
theorem dL_ask_252 : decode cL_ask 252 = .ok (.aload_n 2, 1) := by decide +kernel
theorem dL_ask_253 : decode cL_ask 253 = .ok (.iconst 0, 1) := by decide +kernel
theorem dL_ask_254 : decode cL_ask 254 = .ok (.iaload, 1) := by decide +kernel
theorem dL_ask_255 : decode cL_ask 255 = .ok (.invokevirtual 13, 3) := by decide +kernel
theorem dL_ask_258 : decode cL_ask 258 = .ok (.ifCond .eq 7, 3) := by decide +kernel
theorem dL_ask_261 : decode cL_ask 261 = .ok (.iconst 1, 1) := by decide +kernel
theorem dL_ask_262 : decode cL_ask 262 = .ok (.goto 4, 3) := by decide +kernel
theorem dL_ask_265 : decode cL_ask 265 = .ok (.iconst 0, 1) := by decide +kernel
theorem dL_ask_266 : decode cL_ask 266 = .ok (.ireturn, 1) := by decide +kernel
theorem dL_ask_267 : decode cL_ask 267 = .ok (.aload_n 0, 1) := by decide +kernel
theorem dL_ask_268 : decode cL_ask 268 = .ok (.aload_n 2, 1) := by decide +kernel
theorem dL_ask_269 : decode cL_ask 269 = .ok (.iconst 0, 1) := by decide +kernel
theorem dL_ask_270 : decode cL_ask 270 = .ok (.iaload, 1) := by decide +kernel
theorem dL_ask_271 : decode cL_ask 271 = .ok (.aload_n 2, 1) := by decide +kernel
theorem dL_ask_272 : decode cL_ask 272 = .ok (.iconst 1, 1) := by decide +kernel
theorem dL_ask_273 : decode cL_ask 273 = .ok (.iaload, 1) := by decide +kernel
theorem dL_ask_274 : decode cL_ask 274 = .ok (.aload_n 2, 1) := by decide +kernel
theorem dL_ask_275 : decode cL_ask 275 = .ok (.iconst 2, 1) := by decide +kernel
theorem dL_ask_276 : decode cL_ask 276 = .ok (.iaload, 1) := by decide +kernel
theorem dL_ask_277 : decode cL_ask 277 = .ok (.invokevirtual 17, 3) := by decide +kernel
theorem dL_ask_280 : decode cL_ask 280 = .ok (.ireturn, 1) := by decide +kernel
theorem dL_ask_281 : decode cL_ask 281 = .ok (.aload_n 0, 1) := by decide +kernel
theorem dL_ask_282 : decode cL_ask 282 = .ok (.aload_n 2, 1) := by decide +kernel
theorem dL_ask_283 : decode cL_ask 283 = .ok (.iconst 0, 1) := by decide +kernel
theorem dL_ask_284 : decode cL_ask 284 = .ok (.iaload, 1) := by decide +kernel
theorem dL_ask_285 : decode cL_ask 285 = .ok (.aload_n 2, 1) := by decide +kernel
theorem dL_ask_286 : decode cL_ask 286 = .ok (.iconst 1, 1) := by decide +kernel
theorem dL_ask_287 : decode cL_ask 287 = .ok (.iaload, 1) := by decide +kernel
theorem dL_ask_288 : decode cL_ask 288 = .ok (.aload_n 2, 1) := by decide +kernel
theorem dL_ask_289 : decode cL_ask 289 = .ok (.iconst 2, 1) := by decide +kernel
theorem dL_ask_290 : decode cL_ask 290 = .ok (.iaload, 1) := by decide +kernel
theorem dL_ask_291 : decode cL_ask 291 = .ok (.invokevirtual 21, 3) := by decide +kernel
theorem dL_ask_294 : decode cL_ask 294 = .ok (.ireturn, 1) := by decide +kernel
theorem dL_ask_295 : decode cL_ask 295 = .ok (.aload_n 0, 1) := by decide +kernel
theorem dL_ask_296 : decode cL_ask 296 = .ok (.aload_n 2, 1) := by decide +kernel
theorem dL_ask_297 : decode cL_ask 297 = .ok (.iconst 0, 1) := by decide +kernel
theorem dL_ask_298 : decode cL_ask 298 = .ok (.iaload, 1) := by decide +kernel
theorem dL_ask_299 : decode cL_ask 299 = .ok (.aload_n 2, 1) := by decide +kernel
theorem dL_ask_300 : decode cL_ask 300 = .ok (.iconst 1, 1) := by decide +kernel
theorem dL_ask_301 : decode cL_ask 301 = .ok (.iaload, 1) := by decide +kernel
theorem dL_ask_302 : decode cL_ask 302 = .ok (.aload_n 2, 1) := by decide +kernel
theorem dL_ask_303 : decode cL_ask 303 = .ok (.iconst 2, 1) := by decide +kernel
theorem dL_ask_304 : decode cL_ask 304 = .ok (.iaload, 1) := by decide +kernel
theorem dL_ask_305 : decode cL_ask 305 = .ok (.invokevirtual 24, 3) := by decide +kernel
theorem dL_ask_308 : decode cL_ask 308 = .ok (.ireturn, 1) := by decide +kernel
theorem dL_ask_309 : decode cL_ask 309 = .ok (.aload_n 0, 1) := by decide +kernel
theorem dL_ask_310 : decode cL_ask 310 = .ok (.aload_n 2, 1) := by decide +kernel
theorem dL_ask_311 : decode cL_ask 311 = .ok (.iconst 0, 1) := by decide +kernel
theorem dL_ask_312 : decode cL_ask 312 = .ok (.iaload, 1) := by decide +kernel
theorem dL_ask_313 : decode cL_ask 313 = .ok (.invokevirtual 27, 3) := by decide +kernel
theorem dL_ask_316 : decode cL_ask 316 = .ok (.ireturn, 1) := by decide +kernel
theorem dL_ask_317 : decode cL_ask 317 = .ok (.aload_n 0, 1) := by decide +kernel
theorem dL_ask_318 : decode cL_ask 318 = .ok (.aload_n 2, 1) := by decide +kernel
theorem dL_ask_319 : decode cL_ask 319 = .ok (.iconst 0, 1) := by decide +kernel
theorem dL_ask_320 : decode cL_ask 320 = .ok (.iaload, 1) := by decide +kernel
theorem dL_ask_321 : decode cL_ask 321 = .ok (.invokevirtual 31, 3) := by decide +kernel
theorem dL_ask_324 : decode cL_ask 324 = .ok (.ireturn, 1) := by decide +kernel
theorem dL_ask_325 : decode cL_ask 325 = .ok (.aload_n 0, 1) := by decide +kernel
theorem dL_ask_326 : decode cL_ask 326 = .ok (.aload_n 2, 1) := by decide +kernel
theorem dL_ask_327 : decode cL_ask 327 = .ok (.iconst 0, 1) := by decide +kernel
theorem dL_ask_328 : decode cL_ask 328 = .ok (.iaload, 1) := by decide +kernel
theorem dL_ask_329 : decode cL_ask 329 = .ok (.invokevirtual 35, 3) := by decide +kernel
theorem dL_ask_332 : decode cL_ask 332 = .ok (.ireturn, 1) := by decide +kernel
theorem dL_ask_333 : decode cL_ask 333 = .ok (.aload_n 0, 1) := by decide +kernel
theorem dL_ask_334 : decode cL_ask 334 = .ok (.aload_n 2, 1) := by decide +kernel
theorem dL_ask_335 : decode cL_ask 335 = .ok (.iconst 0, 1) := by decide +kernel
theorem dL_ask_336 : decode cL_ask 336 = .ok (.iaload, 1) := by decide +kernel
theorem dL_ask_337 : decode cL_ask 337 = .ok (.aload_n 2, 1) := by decide +kernel
theorem dL_ask_338 : decode cL_ask 338 = .ok (.iconst 1, 1) := by decide +kernel
theorem dL_ask_339 : decode cL_ask 339 = .ok (.iaload, 1) := by decide +kernel
theorem dL_ask_340 : decode cL_ask 340 = .ok (.aload_n 2, 1) := by decide +kernel
theorem dL_ask_341 : decode cL_ask 341 = .ok (.iconst 2, 1) := by decide +kernel
theorem dL_ask_342 : decode cL_ask 342 = .ok (.iaload, 1) := by decide +kernel
theorem dL_ask_343 : decode cL_ask 343 = .ok (.aload_n 2, 1) := by decide +kernel
theorem dL_ask_344 : decode cL_ask 344 = .ok (.iconst 3, 1) := by decide +kernel
theorem dL_ask_345 : decode cL_ask 345 = .ok (.iaload, 1) := by decide +kernel
theorem dL_ask_346 : decode cL_ask 346 = .ok (.invokevirtual 38, 3) := by decide +kernel
theorem dL_ask_349 : decode cL_ask 349 = .ok (.ireturn, 1) := by decide +kernel
theorem dL_ask_350 : decode cL_ask 350 = .ok (.aload_n 0, 1) := by decide +kernel
theorem dL_ask_351 : decode cL_ask 351 = .ok (.aload_n 2, 1) := by decide +kernel
theorem dL_ask_352 : decode cL_ask 352 = .ok (.iconst 0, 1) := by decide +kernel
theorem dL_ask_353 : decode cL_ask 353 = .ok (.iaload, 1) := by decide +kernel
theorem dL_ask_354 : decode cL_ask 354 = .ok (.aload_n 2, 1) := by decide +kernel
theorem dL_ask_355 : decode cL_ask 355 = .ok (.iconst 1, 1) := by decide +kernel
theorem dL_ask_356 : decode cL_ask 356 = .ok (.iaload, 1) := by decide +kernel
theorem dL_ask_357 : decode cL_ask 357 = .ok (.invokevirtual 42, 3) := by decide +kernel
theorem dL_ask_360 : decode cL_ask 360 = .ok (.ireturn, 1) := by decide +kernel
theorem dL_ask_361 : decode cL_ask 361 = .ok (.aload_n 0, 1) := by decide +kernel
theorem dL_ask_362 : decode cL_ask 362 = .ok (.aload_n 2, 1) := by decide +kernel
theorem dL_ask_363 : decode cL_ask 363 = .ok (.iconst 0, 1) := by decide +kernel
theorem dL_ask_364 : decode cL_ask 364 = .ok (.iaload, 1) := by decide +kernel
theorem dL_ask_365 : decode cL_ask 365 = .ok (.aload_n 2, 1) := by decide +kernel
theorem dL_ask_366 : decode cL_ask 366 = .ok (.iconst 1, 1) := by decide +kernel
theorem dL_ask_367 : decode cL_ask 367 = .ok (.iaload, 1) := by decide +kernel
theorem dL_ask_368 : decode cL_ask 368 = .ok (.invokevirtual 46, 3) := by decide +kernel
theorem dL_ask_371 : decode cL_ask 371 = .ok (.ireturn, 1) := by decide +kernel
theorem dL_ask_372 : decode cL_ask 372 = .ok (.aload_n 0, 1) := by decide +kernel
theorem dL_ask_373 : decode cL_ask 373 = .ok (.aload_n 2, 1) := by decide +kernel
theorem dL_ask_374 : decode cL_ask 374 = .ok (.iconst 0, 1) := by decide +kernel
theorem dL_ask_375 : decode cL_ask 375 = .ok (.iaload, 1) := by decide +kernel
theorem dL_ask_376 : decode cL_ask 376 = .ok (.invokevirtual 49, 3) := by decide +kernel
theorem dL_ask_379 : decode cL_ask 379 = .ok (.ireturn, 1) := by decide +kernel
theorem dL_ask_380 : decode cL_ask 380 = .ok (.aload_n 0, 1) := by decide +kernel
theorem dL_ask_381 : decode cL_ask 381 = .ok (.aload_n 2, 1) := by decide +kernel
theorem dL_ask_382 : decode cL_ask 382 = .ok (.iconst 0, 1) := by decide +kernel
theorem dL_ask_383 : decode cL_ask 383 = .ok (.iaload, 1) := by decide +kernel
theorem dL_ask_384 : decode cL_ask 384 = .ok (.invokevirtual 52, 3) := by decide +kernel
theorem dL_ask_387 : decode cL_ask 387 = .ok (.ireturn, 1) := by decide +kernel
theorem dL_ask_388 : decode cL_ask 388 = .ok (.aload_n 0, 1) := by decide +kernel
theorem dL_ask_389 : decode cL_ask 389 = .ok (.aload_n 2, 1) := by decide +kernel
theorem dL_ask_390 : decode cL_ask 390 = .ok (.iconst 0, 1) := by decide +kernel
theorem dL_ask_391 : decode cL_ask 391 = .ok (.iaload, 1) := by decide +kernel
theorem dL_ask_392 : decode cL_ask 392 = .ok (.aload_n 2, 1) := by decide +kernel
theorem dL_ask_393 : decode cL_ask 393 = .ok (.iconst 1, 1) := by decide +kernel
theorem dL_ask_394 : decode cL_ask 394 = .ok (.iaload, 1) := by decide +kernel
theorem dL_ask_395 : decode cL_ask 395 = .ok (.invokevirtual 55, 3) := by decide +kernel
theorem dL_ask_398 : decode cL_ask 398 = .ok (.ireturn, 1) := by decide +kernel
theorem dL_ask_399 : decode cL_ask 399 = .ok (.aload_n 0, 1) := by decide +kernel
theorem dL_ask_400 : decode cL_ask 400 = .ok (.aload_n 2, 1) := by decide +kernel
theorem dL_ask_401 : decode cL_ask 401 = .ok (.iconst 0, 1) := by decide +kernel
theorem dL_ask_402 : decode cL_ask 402 = .ok (.iaload, 1) := by decide +kernel
theorem dL_ask_403 : decode cL_ask 403 = .ok (.aload_n 2, 1) := by decide +kernel
theorem dL_ask_404 : decode cL_ask 404 = .ok (.iconst 1, 1) := by decide +kernel
theorem dL_ask_405 : decode cL_ask 405 = .ok (.iaload, 1) := by decide +kernel
theorem dL_ask_406 : decode cL_ask 406 = .ok (.invokevirtual 58, 3) := by decide +kernel
theorem dL_ask_409 : decode cL_ask 409 = .ok (.ireturn, 1) := by decide +kernel
theorem dL_ask_410 : decode cL_ask 410 = .ok (.aload_n 0, 1) := by decide +kernel
theorem dL_ask_411 : decode cL_ask 411 = .ok (.aload_n 2, 1) := by decide +kernel
theorem dL_ask_412 : decode cL_ask 412 = .ok (.iconst 0, 1) := by decide +kernel
theorem dL_ask_413 : decode cL_ask 413 = .ok (.iaload, 1) := by decide +kernel
theorem dL_ask_414 : decode cL_ask 414 = .ok (.aload_n 2, 1) := by decide +kernel
theorem dL_ask_415 : decode cL_ask 415 = .ok (.iconst 1, 1) := by decide +kernel
theorem dL_ask_416 : decode cL_ask 416 = .ok (.iaload, 1) := by decide +kernel
theorem dL_ask_417 : decode cL_ask 417 = .ok (.invokevirtual 61, 3) := by decide +kernel
theorem dL_ask_420 : decode cL_ask 420 = .ok (.ireturn, 1) := by decide +kernel
theorem dL_ask_421 : decode cL_ask 421 = .ok (.aload_n 0, 1) := by decide +kernel
theorem dL_ask_422 : decode cL_ask 422 = .ok (.invokevirtual 64, 3) := by decide +kernel
theorem dL_ask_425 : decode cL_ask 425 = .ok (.ireturn, 1) := by decide +kernel
theorem dL_ask_426 : decode cL_ask 426 = .ok (.aload_n 0, 1) := by decide +kernel
theorem dL_ask_427 : decode cL_ask 427 = .ok (.aload_n 2, 1) := by decide +kernel
theorem dL_ask_428 : decode cL_ask 428 = .ok (.iconst 0, 1) := by decide +kernel
theorem dL_ask_429 : decode cL_ask 429 = .ok (.iaload, 1) := by decide +kernel
theorem dL_ask_430 : decode cL_ask 430 = .ok (.aload_n 2, 1) := by decide +kernel
theorem dL_ask_431 : decode cL_ask 431 = .ok (.iconst 1, 1) := by decide +kernel
theorem dL_ask_432 : decode cL_ask 432 = .ok (.iaload, 1) := by decide +kernel
theorem dL_ask_433 : decode cL_ask 433 = .ok (.invokevirtual 68, 3) := by decide +kernel
theorem dL_ask_436 : decode cL_ask 436 = .ok (.ireturn, 1) := by decide +kernel
theorem dL_ask_437 : decode cL_ask 437 = .ok (.astore_n 3, 1) := by decide +kernel
theorem dL_ask_438 : decode cL_ask 438 = .ok (.sipush (-1002), 3) := by decide +kernel
theorem dL_ask_441 : decode cL_ask 441 = .ok (.ireturn, 1) := by decide +kernel
theorem dL_ask_442 : decode cL_ask 442 = .ok (.astore_n 3, 1) := by decide +kernel
theorem dL_ask_443 : decode cL_ask 443 = .ok (.sipush (-1003), 3) := by decide +kernel
theorem dL_ask_446 : decode cL_ask 446 = .ok (.ireturn, 1) := by decide +kernel
theorem dL_ask_447 : decode cL_ask 447 = .ok (.astore_n 3, 1) := by decide +kernel
theorem dL_ask_448 : decode cL_ask 448 = .ok (.sipush (-1004), 3) := by decide +kernel
theorem dL_ask_451 : decode cL_ask 451 = .ok (.ireturn, 1) := by decide +kernel
theorem dL_cue_0 : decode cL_cue 0 = .ok (.iload_n 1, 1) := by decide +kernel
theorem dL_cue_1 : decode cL_cue 1 = .ok (.tableswitch 235 97 119 #[107, 235, 235, 132, 148, 235, 224, 205, 164, 235, 235, 156, 183, 235, 235, 194, 235, 175, 140, 213, 235, 235, 121], 107) := by decide +kernel
theorem dL_cue_108 : decode cL_cue 108 = .ok (.aload_n 0, 1) := by decide +kernel
theorem dL_cue_109 : decode cL_cue 109 = .ok (.aload_n 2, 1) := by decide +kernel
theorem dL_cue_110 : decode cL_cue 110 = .ok (.iconst 0, 1) := by decide +kernel
theorem dL_cue_111 : decode cL_cue 111 = .ok (.iaload, 1) := by decide +kernel
theorem dL_cue_112 : decode cL_cue 112 = .ok (.aload_n 2, 1) := by decide +kernel
theorem dL_cue_113 : decode cL_cue 113 = .ok (.iconst 1, 1) := by decide +kernel
theorem dL_cue_114 : decode cL_cue 114 = .ok (.iaload, 1) := by decide +kernel
theorem dL_cue_115 : decode cL_cue 115 = .ok (.aload_n 2, 1) := by decide +kernel
theorem dL_cue_116 : decode cL_cue 116 = .ok (.iconst 2, 1) := by decide +kernel
theorem dL_cue_117 : decode cL_cue 117 = .ok (.iaload, 1) := by decide +kernel
theorem dL_cue_118 : decode cL_cue 118 = .ok (.invokevirtual 77, 3) := by decide +kernel
theorem dL_cue_121 : decode cL_cue 121 = .ok (.ireturn, 1) := by decide +kernel
theorem dL_cue_122 : decode cL_cue 122 = .ok (.aload_n 0, 1) := by decide +kernel
theorem dL_cue_123 : decode cL_cue 123 = .ok (.aload_n 2, 1) := by decide +kernel
theorem dL_cue_124 : decode cL_cue 124 = .ok (.iconst 0, 1) := by decide +kernel
theorem dL_cue_125 : decode cL_cue 125 = .ok (.iaload, 1) := by decide +kernel
theorem dL_cue_126 : decode cL_cue 126 = .ok (.aload_n 2, 1) := by decide +kernel
theorem dL_cue_127 : decode cL_cue 127 = .ok (.iconst 1, 1) := by decide +kernel
theorem dL_cue_128 : decode cL_cue 128 = .ok (.iaload, 1) := by decide +kernel
theorem dL_cue_129 : decode cL_cue 129 = .ok (.invokevirtual 80, 3) := by decide +kernel
theorem dL_cue_132 : decode cL_cue 132 = .ok (.ireturn, 1) := by decide +kernel
theorem dL_cue_133 : decode cL_cue 133 = .ok (.aload_n 0, 1) := by decide +kernel
theorem dL_cue_134 : decode cL_cue 134 = .ok (.aload_n 2, 1) := by decide +kernel
theorem dL_cue_135 : decode cL_cue 135 = .ok (.iconst 0, 1) := by decide +kernel
theorem dL_cue_136 : decode cL_cue 136 = .ok (.iaload, 1) := by decide +kernel
theorem dL_cue_137 : decode cL_cue 137 = .ok (.invokevirtual 83, 3) := by decide +kernel
theorem dL_cue_140 : decode cL_cue 140 = .ok (.ireturn, 1) := by decide +kernel
theorem dL_cue_141 : decode cL_cue 141 = .ok (.aload_n 0, 1) := by decide +kernel
theorem dL_cue_142 : decode cL_cue 142 = .ok (.aload_n 2, 1) := by decide +kernel
theorem dL_cue_143 : decode cL_cue 143 = .ok (.iconst 0, 1) := by decide +kernel
theorem dL_cue_144 : decode cL_cue 144 = .ok (.iaload, 1) := by decide +kernel
theorem dL_cue_145 : decode cL_cue 145 = .ok (.invokevirtual 86, 3) := by decide +kernel
theorem dL_cue_148 : decode cL_cue 148 = .ok (.ireturn, 1) := by decide +kernel
theorem dL_cue_149 : decode cL_cue 149 = .ok (.aload_n 0, 1) := by decide +kernel
theorem dL_cue_150 : decode cL_cue 150 = .ok (.aload_n 2, 1) := by decide +kernel
theorem dL_cue_151 : decode cL_cue 151 = .ok (.iconst 0, 1) := by decide +kernel
theorem dL_cue_152 : decode cL_cue 152 = .ok (.iaload, 1) := by decide +kernel
theorem dL_cue_153 : decode cL_cue 153 = .ok (.invokevirtual 89, 3) := by decide +kernel
theorem dL_cue_156 : decode cL_cue 156 = .ok (.ireturn, 1) := by decide +kernel
theorem dL_cue_157 : decode cL_cue 157 = .ok (.aload_n 0, 1) := by decide +kernel
theorem dL_cue_158 : decode cL_cue 158 = .ok (.aload_n 2, 1) := by decide +kernel
theorem dL_cue_159 : decode cL_cue 159 = .ok (.iconst 0, 1) := by decide +kernel
theorem dL_cue_160 : decode cL_cue 160 = .ok (.iaload, 1) := by decide +kernel
theorem dL_cue_161 : decode cL_cue 161 = .ok (.invokevirtual 92, 3) := by decide +kernel
theorem dL_cue_164 : decode cL_cue 164 = .ok (.ireturn, 1) := by decide +kernel
theorem dL_cue_165 : decode cL_cue 165 = .ok (.aload_n 0, 1) := by decide +kernel
theorem dL_cue_166 : decode cL_cue 166 = .ok (.aload_n 2, 1) := by decide +kernel
theorem dL_cue_167 : decode cL_cue 167 = .ok (.iconst 0, 1) := by decide +kernel
theorem dL_cue_168 : decode cL_cue 168 = .ok (.iaload, 1) := by decide +kernel
theorem dL_cue_169 : decode cL_cue 169 = .ok (.aload_n 2, 1) := by decide +kernel
theorem dL_cue_170 : decode cL_cue 170 = .ok (.iconst 1, 1) := by decide +kernel
theorem dL_cue_171 : decode cL_cue 171 = .ok (.iaload, 1) := by decide +kernel
theorem dL_cue_172 : decode cL_cue 172 = .ok (.invokevirtual 95, 3) := by decide +kernel
theorem dL_cue_175 : decode cL_cue 175 = .ok (.ireturn, 1) := by decide +kernel
theorem dL_cue_176 : decode cL_cue 176 = .ok (.aload_n 0, 1) := by decide +kernel
theorem dL_cue_177 : decode cL_cue 177 = .ok (.aload_n 2, 1) := by decide +kernel
theorem dL_cue_178 : decode cL_cue 178 = .ok (.iconst 0, 1) := by decide +kernel
theorem dL_cue_179 : decode cL_cue 179 = .ok (.iaload, 1) := by decide +kernel
theorem dL_cue_180 : decode cL_cue 180 = .ok (.invokevirtual 98, 3) := by decide +kernel
theorem dL_cue_183 : decode cL_cue 183 = .ok (.ireturn, 1) := by decide +kernel
theorem dL_cue_184 : decode cL_cue 184 = .ok (.aload_n 0, 1) := by decide +kernel
theorem dL_cue_185 : decode cL_cue 185 = .ok (.aload_n 2, 1) := by decide +kernel
theorem dL_cue_186 : decode cL_cue 186 = .ok (.iconst 0, 1) := by decide +kernel
theorem dL_cue_187 : decode cL_cue 187 = .ok (.iaload, 1) := by decide +kernel
theorem dL_cue_188 : decode cL_cue 188 = .ok (.aload_n 2, 1) := by decide +kernel
theorem dL_cue_189 : decode cL_cue 189 = .ok (.iconst 1, 1) := by decide +kernel
theorem dL_cue_190 : decode cL_cue 190 = .ok (.iaload, 1) := by decide +kernel
theorem dL_cue_191 : decode cL_cue 191 = .ok (.invokevirtual 101, 3) := by decide +kernel
theorem dL_cue_194 : decode cL_cue 194 = .ok (.ireturn, 1) := by decide +kernel
theorem dL_cue_195 : decode cL_cue 195 = .ok (.aload_n 0, 1) := by decide +kernel
theorem dL_cue_196 : decode cL_cue 196 = .ok (.aload_n 2, 1) := by decide +kernel
theorem dL_cue_197 : decode cL_cue 197 = .ok (.iconst 0, 1) := by decide +kernel
theorem dL_cue_198 : decode cL_cue 198 = .ok (.iaload, 1) := by decide +kernel
theorem dL_cue_199 : decode cL_cue 199 = .ok (.aload_n 2, 1) := by decide +kernel
theorem dL_cue_200 : decode cL_cue 200 = .ok (.iconst 1, 1) := by decide +kernel
theorem dL_cue_201 : decode cL_cue 201 = .ok (.iaload, 1) := by decide +kernel
theorem dL_cue_202 : decode cL_cue 202 = .ok (.invokevirtual 104, 3) := by decide +kernel
theorem dL_cue_205 : decode cL_cue 205 = .ok (.ireturn, 1) := by decide +kernel
theorem dL_cue_206 : decode cL_cue 206 = .ok (.aload_n 0, 1) := by decide +kernel
theorem dL_cue_207 : decode cL_cue 207 = .ok (.aload_n 2, 1) := by decide +kernel
theorem dL_cue_208 : decode cL_cue 208 = .ok (.iconst 0, 1) := by decide +kernel
theorem dL_cue_209 : decode cL_cue 209 = .ok (.iaload, 1) := by decide +kernel
theorem dL_cue_210 : decode cL_cue 210 = .ok (.invokevirtual 107, 3) := by decide +kernel
theorem dL_cue_213 : decode cL_cue 213 = .ok (.ireturn, 1) := by decide +kernel
theorem dL_cue_214 : decode cL_cue 214 = .ok (.aload_n 0, 1) := by decide +kernel
theorem dL_cue_215 : decode cL_cue 215 = .ok (.aload_n 2, 1) := by decide +kernel
theorem dL_cue_216 : decode cL_cue 216 = .ok (.iconst 0, 1) := by decide +kernel
theorem dL_cue_217 : decode cL_cue 217 = .ok (.iaload, 1) := by decide +kernel
theorem dL_cue_218 : decode cL_cue 218 = .ok (.aload_n 2, 1) := by decide +kernel
theorem dL_cue_219 : decode cL_cue 219 = .ok (.iconst 1, 1) := by decide +kernel
theorem dL_cue_220 : decode cL_cue 220 = .ok (.iaload, 1) := by decide +kernel
theorem dL_cue_221 : decode cL_cue 221 = .ok (.invokevirtual 110, 3) := by decide +kernel
theorem dL_cue_224 : decode cL_cue 224 = .ok (.ireturn, 1) := by decide +kernel
theorem dL_cue_225 : decode cL_cue 225 = .ok (.aload_n 0, 1) := by decide +kernel
theorem dL_cue_226 : decode cL_cue 226 = .ok (.aload_n 2, 1) := by decide +kernel
theorem dL_cue_227 : decode cL_cue 227 = .ok (.iconst 0, 1) := by decide +kernel
theorem dL_cue_228 : decode cL_cue 228 = .ok (.iaload, 1) := by decide +kernel
theorem dL_cue_229 : decode cL_cue 229 = .ok (.aload_n 2, 1) := by decide +kernel
theorem dL_cue_230 : decode cL_cue 230 = .ok (.iconst 1, 1) := by decide +kernel
theorem dL_cue_231 : decode cL_cue 231 = .ok (.iaload, 1) := by decide +kernel
theorem dL_cue_232 : decode cL_cue 232 = .ok (.invokevirtual 113, 3) := by decide +kernel
theorem dL_cue_235 : decode cL_cue 235 = .ok (.ireturn, 1) := by decide +kernel
theorem dL_cue_236 : decode cL_cue 236 = .ok (.aload_n 0, 1) := by decide +kernel
theorem dL_cue_237 : decode cL_cue 237 = .ok (.aload_n 2, 1) := by decide +kernel
theorem dL_cue_238 : decode cL_cue 238 = .ok (.iconst 0, 1) := by decide +kernel
theorem dL_cue_239 : decode cL_cue 239 = .ok (.iaload, 1) := by decide +kernel
theorem dL_cue_240 : decode cL_cue 240 = .ok (.invokevirtual 116, 3) := by decide +kernel
theorem dL_cue_243 : decode cL_cue 243 = .ok (.ireturn, 1) := by decide +kernel
theorem dL_cue_244 : decode cL_cue 244 = .ok (.astore_n 3, 1) := by decide +kernel
theorem dL_cue_245 : decode cL_cue 245 = .ok (.sipush (-1001), 3) := by decide +kernel
theorem dL_cue_248 : decode cL_cue 248 = .ok (.ireturn, 1) := by decide +kernel
theorem dL_cue_249 : decode cL_cue 249 = .ok (.astore_n 3, 1) := by decide +kernel
theorem dL_cue_250 : decode cL_cue 250 = .ok (.sipush (-1002), 3) := by decide +kernel
theorem dL_cue_253 : decode cL_cue 253 = .ok (.ireturn, 1) := by decide +kernel
theorem dL_cue_254 : decode cL_cue 254 = .ok (.astore_n 3, 1) := by decide +kernel
theorem dL_cue_255 : decode cL_cue 255 = .ok (.sipush (-1003), 3) := by decide +kernel
theorem dL_cue_258 : decode cL_cue 258 = .ok (.ireturn, 1) := by decide +kernel
theorem dL_cue_259 : decode cL_cue 259 = .ok (.astore_n 3, 1) := by decide +kernel
theorem dL_cue_260 : decode cL_cue 260 = .ok (.sipush (-1004), 3) := by decide +kernel
theorem dL_cue_263 : decode cL_cue 263 = .ok (.ireturn, 1) := by decide +kernel
theorem dL_cue_264 : decode cL_cue 264 = .ok (.astore_n 3, 1) := by decide +kernel
theorem dL_cue_265 : decode cL_cue 265 = .ok (.sipush (-1005), 3) := by decide +kernel
theorem dL_cue_268 : decode cL_cue 268 = .ok (.ireturn, 1) := by decide +kernel
theorem dL_stamp_0 : decode cL_stamp 0 = .ok (.iload_n 1, 1) := by decide +kernel
theorem dL_stamp_1 : decode cL_stamp 1 = .ok (.ifCond .eq 23, 3) := by decide +kernel
theorem dL_stamp_4 : decode cL_stamp 4 = .ok (.aload_n 0, 1) := by decide +kernel
theorem dL_stamp_5 : decode cL_stamp 5 = .ok (.aload_n 3, 1) := by decide +kernel
theorem dL_stamp_6 : decode cL_stamp 6 = .ok (.iconst 0, 1) := by decide +kernel
theorem dL_stamp_7 : decode cL_stamp 7 = .ok (.iaload, 1) := by decide +kernel
theorem dL_stamp_8 : decode cL_stamp 8 = .ok (.aload_n 3, 1) := by decide +kernel
theorem dL_stamp_9 : decode cL_stamp 9 = .ok (.iconst 1, 1) := by decide +kernel
theorem dL_stamp_10 : decode cL_stamp 10 = .ok (.iaload, 1) := by decide +kernel
theorem dL_stamp_11 : decode cL_stamp 11 = .ok (.aload_n 3, 1) := by decide +kernel
theorem dL_stamp_12 : decode cL_stamp 12 = .ok (.iconst 2, 1) := by decide +kernel
theorem dL_stamp_13 : decode cL_stamp 13 = .ok (.iaload, 1) := by decide +kernel
theorem dL_stamp_14 : decode cL_stamp 14 = .ok (.aload_n 3, 1) := by decide +kernel
theorem dL_stamp_15 : decode cL_stamp 15 = .ok (.iconst 3, 1) := by decide +kernel
theorem dL_stamp_16 : decode cL_stamp 16 = .ok (.iaload, 1) := by decide +kernel
theorem dL_stamp_17 : decode cL_stamp 17 = .ok (.iload_n 2, 1) := by decide +kernel
theorem dL_stamp_18 : decode cL_stamp 18 = .ok (.invokevirtual 123, 3) := by decide +kernel
theorem dL_stamp_21 : decode cL_stamp 21 = .ok (.goto 14, 3) := by decide +kernel
theorem dL_stamp_24 : decode cL_stamp 24 = .ok (.aload_n 0, 1) := by decide +kernel
theorem dL_stamp_25 : decode cL_stamp 25 = .ok (.aload_n 3, 1) := by decide +kernel
theorem dL_stamp_26 : decode cL_stamp 26 = .ok (.iconst 0, 1) := by decide +kernel
theorem dL_stamp_27 : decode cL_stamp 27 = .ok (.iaload, 1) := by decide +kernel
theorem dL_stamp_28 : decode cL_stamp 28 = .ok (.aload_n 3, 1) := by decide +kernel
theorem dL_stamp_29 : decode cL_stamp 29 = .ok (.iconst 1, 1) := by decide +kernel
theorem dL_stamp_30 : decode cL_stamp 30 = .ok (.iaload, 1) := by decide +kernel
theorem dL_stamp_31 : decode cL_stamp 31 = .ok (.iload_n 2, 1) := by decide +kernel
theorem dL_stamp_32 : decode cL_stamp 32 = .ok (.invokevirtual 127, 3) := by decide +kernel
theorem dL_stamp_35 : decode cL_stamp 35 = .ok (.ireturn, 1) := by decide +kernel
theorem dL_stamp_36 : decode cL_stamp 36 = .ok (.astore 4, 2) := by decide +kernel
theorem dL_stamp_38 : decode cL_stamp 38 = .ok (.sipush (-1002), 3) := by decide +kernel
theorem dL_stamp_41 : decode cL_stamp 41 = .ok (.ireturn, 1) := by decide +kernel
theorem dL_dropped_0 : decode cL_dropped 0 = .ok (.iload_n 0, 1) := by decide +kernel
theorem dL_dropped_1 : decode cL_dropped 1 = .ok (.istore_n 1, 1) := by decide +kernel
theorem dL_dropped_2 : decode cL_dropped 2 = .ok (.iconst 0, 1) := by decide +kernel
theorem dL_dropped_3 : decode cL_dropped 3 = .ok (.istore_n 2, 1) := by decide +kernel
theorem dL_dropped_4 : decode cL_dropped 4 = .ok (.iconst 0, 1) := by decide +kernel
theorem dL_dropped_5 : decode cL_dropped 5 = .ok (.istore_n 3, 1) := by decide +kernel
theorem dL_dropped_6 : decode cL_dropped 6 = .ok (.iload_n 1, 1) := by decide +kernel
theorem dL_dropped_7 : decode cL_dropped 7 = .ok (.sipush 1800, 3) := by decide +kernel
theorem dL_dropped_10 : decode cL_dropped 10 = .ok (.iload_n 3, 1) := by decide +kernel
theorem dL_dropped_11 : decode cL_dropped 11 = .ok (.isub, 1) := by decide +kernel
theorem dL_dropped_12 : decode cL_dropped 12 = .ok (.if_icmp .lt 30, 3) := by decide +kernel
theorem dL_dropped_15 : decode cL_dropped 15 = .ok (.iload_n 1, 1) := by decide +kernel
theorem dL_dropped_16 : decode cL_dropped 16 = .ok (.sipush 1800, 3) := by decide +kernel
theorem dL_dropped_19 : decode cL_dropped 19 = .ok (.iload_n 3, 1) := by decide +kernel
theorem dL_dropped_20 : decode cL_dropped 20 = .ok (.isub, 1) := by decide +kernel
theorem dL_dropped_21 : decode cL_dropped 21 = .ok (.isub, 1) := by decide +kernel
theorem dL_dropped_22 : decode cL_dropped 22 = .ok (.istore_n 1, 1) := by decide +kernel
theorem dL_dropped_23 : decode cL_dropped 23 = .ok (.iinc 2 1, 3) := by decide +kernel
theorem dL_dropped_26 : decode cL_dropped 26 = .ok (.iload_n 2, 1) := by decide +kernel
theorem dL_dropped_27 : decode cL_dropped 27 = .ok (.bipush 10, 2) := by decide +kernel
theorem dL_dropped_29 : decode cL_dropped 29 = .ok (.irem, 1) := by decide +kernel
theorem dL_dropped_30 : decode cL_dropped 30 = .ok (.ifCond .ne 7, 3) := by decide +kernel
theorem dL_dropped_33 : decode cL_dropped 33 = .ok (.iconst 0, 1) := by decide +kernel
theorem dL_dropped_34 : decode cL_dropped 34 = .ok (.goto 4, 3) := by decide +kernel
theorem dL_dropped_37 : decode cL_dropped 37 = .ok (.iconst 2, 1) := by decide +kernel
theorem dL_dropped_38 : decode cL_dropped 38 = .ok (.istore_n 3, 1) := by decide +kernel
theorem dL_dropped_39 : decode cL_dropped 39 = .ok (.goto (-33), 3) := by decide +kernel
theorem dL_dropped_42 : decode cL_dropped 42 = .ok (.iload_n 1, 1) := by decide +kernel
theorem dL_dropped_43 : decode cL_dropped 43 = .ok (.iload_n 3, 1) := by decide +kernel
theorem dL_dropped_44 : decode cL_dropped 44 = .ok (.iadd, 1) := by decide +kernel
theorem dL_dropped_45 : decode cL_dropped 45 = .ok (.istore 4, 2) := by decide +kernel
theorem dL_dropped_47 : decode cL_dropped 47 = .ok (.iconst 4, 1) := by decide +kernel
theorem dL_dropped_48 : decode cL_dropped 48 = .ok (.newarray .int, 2) := by decide +kernel
theorem dL_dropped_50 : decode cL_dropped 50 = .ok (.dup, 1) := by decide +kernel
theorem dL_dropped_51 : decode cL_dropped 51 = .ok (.iconst 0, 1) := by decide +kernel
theorem dL_dropped_52 : decode cL_dropped 52 = .ok (.iload_n 2, 1) := by decide +kernel
theorem dL_dropped_53 : decode cL_dropped 53 = .ok (.bipush 60, 2) := by decide +kernel
theorem dL_dropped_55 : decode cL_dropped 55 = .ok (.idiv, 1) := by decide +kernel
theorem dL_dropped_56 : decode cL_dropped 56 = .ok (.iastore, 1) := by decide +kernel
theorem dL_dropped_57 : decode cL_dropped 57 = .ok (.dup, 1) := by decide +kernel
theorem dL_dropped_58 : decode cL_dropped 58 = .ok (.iconst 1, 1) := by decide +kernel
theorem dL_dropped_59 : decode cL_dropped 59 = .ok (.iload_n 2, 1) := by decide +kernel
theorem dL_dropped_60 : decode cL_dropped 60 = .ok (.bipush 60, 2) := by decide +kernel
theorem dL_dropped_62 : decode cL_dropped 62 = .ok (.irem, 1) := by decide +kernel
theorem dL_dropped_63 : decode cL_dropped 63 = .ok (.iastore, 1) := by decide +kernel
theorem dL_dropped_64 : decode cL_dropped 64 = .ok (.dup, 1) := by decide +kernel
theorem dL_dropped_65 : decode cL_dropped 65 = .ok (.iconst 2, 1) := by decide +kernel
theorem dL_dropped_66 : decode cL_dropped 66 = .ok (.iload 4, 2) := by decide +kernel
theorem dL_dropped_68 : decode cL_dropped 68 = .ok (.bipush 30, 2) := by decide +kernel
theorem dL_dropped_70 : decode cL_dropped 70 = .ok (.idiv, 1) := by decide +kernel
theorem dL_dropped_71 : decode cL_dropped 71 = .ok (.iastore, 1) := by decide +kernel
theorem dL_dropped_72 : decode cL_dropped 72 = .ok (.dup, 1) := by decide +kernel
theorem dL_dropped_73 : decode cL_dropped 73 = .ok (.iconst 3, 1) := by decide +kernel
theorem dL_dropped_74 : decode cL_dropped 74 = .ok (.iload 4, 2) := by decide +kernel
theorem dL_dropped_76 : decode cL_dropped 76 = .ok (.bipush 30, 2) := by decide +kernel
theorem dL_dropped_78 : decode cL_dropped 78 = .ok (.irem, 1) := by decide +kernel
theorem dL_dropped_79 : decode cL_dropped 79 = .ok (.iastore, 1) := by decide +kernel
theorem dL_dropped_80 : decode cL_dropped 80 = .ok (.areturn, 1) := by decide +kernel
theorem dL_stampsAreGood_0 : decode cL_stampsAreGood 0 = .ok (.iconst 4, 1) := by decide +kernel
theorem dL_stampsAreGood_1 : decode cL_stampsAreGood 1 = .ok (.newarray .int, 2) := by decide +kernel
theorem dL_stampsAreGood_3 : decode cL_stampsAreGood 3 = .ok (.dup, 1) := by decide +kernel
theorem dL_stampsAreGood_4 : decode cL_stampsAreGood 4 = .ok (.iconst 0, 1) := by decide +kernel
theorem dL_stampsAreGood_5 : decode cL_stampsAreGood 5 = .ok (.iload_n 1, 1) := by decide +kernel
theorem dL_stampsAreGood_6 : decode cL_stampsAreGood 6 = .ok (.ldc 131, 2) := by decide +kernel
theorem dL_stampsAreGood_8 : decode cL_stampsAreGood 8 = .ok (.idiv, 1) := by decide +kernel
theorem dL_stampsAreGood_9 : decode cL_stampsAreGood 9 = .ok (.iastore, 1) := by decide +kernel
theorem dL_stampsAreGood_10 : decode cL_stampsAreGood 10 = .ok (.dup, 1) := by decide +kernel
theorem dL_stampsAreGood_11 : decode cL_stampsAreGood 11 = .ok (.iconst 1, 1) := by decide +kernel
theorem dL_stampsAreGood_12 : decode cL_stampsAreGood 12 = .ok (.iload_n 1, 1) := by decide +kernel
theorem dL_stampsAreGood_13 : decode cL_stampsAreGood 13 = .ok (.sipush 1800, 3) := by decide +kernel
theorem dL_stampsAreGood_16 : decode cL_stampsAreGood 16 = .ok (.idiv, 1) := by decide +kernel
theorem dL_stampsAreGood_17 : decode cL_stampsAreGood 17 = .ok (.bipush 60, 2) := by decide +kernel
theorem dL_stampsAreGood_19 : decode cL_stampsAreGood 19 = .ok (.irem, 1) := by decide +kernel
theorem dL_stampsAreGood_20 : decode cL_stampsAreGood 20 = .ok (.iastore, 1) := by decide +kernel
theorem dL_stampsAreGood_21 : decode cL_stampsAreGood 21 = .ok (.dup, 1) := by decide +kernel
theorem dL_stampsAreGood_22 : decode cL_stampsAreGood 22 = .ok (.iconst 2, 1) := by decide +kernel
theorem dL_stampsAreGood_23 : decode cL_stampsAreGood 23 = .ok (.iload_n 1, 1) := by decide +kernel
theorem dL_stampsAreGood_24 : decode cL_stampsAreGood 24 = .ok (.bipush 30, 2) := by decide +kernel
theorem dL_stampsAreGood_26 : decode cL_stampsAreGood 26 = .ok (.idiv, 1) := by decide +kernel
theorem dL_stampsAreGood_27 : decode cL_stampsAreGood 27 = .ok (.bipush 60, 2) := by decide +kernel
theorem dL_stampsAreGood_29 : decode cL_stampsAreGood 29 = .ok (.irem, 1) := by decide +kernel
theorem dL_stampsAreGood_30 : decode cL_stampsAreGood 30 = .ok (.iastore, 1) := by decide +kernel
theorem dL_stampsAreGood_31 : decode cL_stampsAreGood 31 = .ok (.dup, 1) := by decide +kernel
theorem dL_stampsAreGood_32 : decode cL_stampsAreGood 32 = .ok (.iconst 3, 1) := by decide +kernel
theorem dL_stampsAreGood_33 : decode cL_stampsAreGood 33 = .ok (.iload_n 1, 1) := by decide +kernel
theorem dL_stampsAreGood_34 : decode cL_stampsAreGood 34 = .ok (.bipush 30, 2) := by decide +kernel
theorem dL_stampsAreGood_36 : decode cL_stampsAreGood 36 = .ok (.irem, 1) := by decide +kernel
theorem dL_stampsAreGood_37 : decode cL_stampsAreGood 37 = .ok (.iastore, 1) := by decide +kernel
theorem dL_stampsAreGood_38 : decode cL_stampsAreGood 38 = .ok (.astore_n 2, 1) := by decide +kernel
theorem dL_stampsAreGood_39 : decode cL_stampsAreGood 39 = .ok (.iload_n 1, 1) := by decide +kernel
theorem dL_stampsAreGood_40 : decode cL_stampsAreGood 40 = .ok (.invokestatic 132, 3) := by decide +kernel
theorem dL_stampsAreGood_43 : decode cL_stampsAreGood 43 = .ok (.astore_n 3, 1) := by decide +kernel
theorem dL_stampsAreGood_44 : decode cL_stampsAreGood 44 = .ok (.iconst 0, 1) := by decide +kernel
theorem dL_stampsAreGood_45 : decode cL_stampsAreGood 45 = .ok (.istore 4, 2) := by decide +kernel
theorem dL_stampsAreGood_47 : decode cL_stampsAreGood 47 = .ok (.iload 4, 2) := by decide +kernel
theorem dL_stampsAreGood_49 : decode cL_stampsAreGood 49 = .ok (.iconst 4, 1) := by decide +kernel
theorem dL_stampsAreGood_50 : decode cL_stampsAreGood 50 = .ok (.if_icmp .ge 61, 3) := by decide +kernel
theorem dL_stampsAreGood_53 : decode cL_stampsAreGood 53 = .ok (.aload_n 0, 1) := by decide +kernel
theorem dL_stampsAreGood_54 : decode cL_stampsAreGood 54 = .ok (.iconst 0, 1) := by decide +kernel
theorem dL_stampsAreGood_55 : decode cL_stampsAreGood 55 = .ok (.iconst 0, 1) := by decide +kernel
theorem dL_stampsAreGood_56 : decode cL_stampsAreGood 56 = .ok (.iconst 2, 1) := by decide +kernel
theorem dL_stampsAreGood_57 : decode cL_stampsAreGood 57 = .ok (.newarray .int, 2) := by decide +kernel
theorem dL_stampsAreGood_59 : decode cL_stampsAreGood 59 = .ok (.dup, 1) := by decide +kernel
theorem dL_stampsAreGood_60 : decode cL_stampsAreGood 60 = .ok (.iconst 0, 1) := by decide +kernel
theorem dL_stampsAreGood_61 : decode cL_stampsAreGood 61 = .ok (.iload_n 1, 1) := by decide +kernel
theorem dL_stampsAreGood_62 : decode cL_stampsAreGood 62 = .ok (.iastore, 1) := by decide +kernel
theorem dL_stampsAreGood_63 : decode cL_stampsAreGood 63 = .ok (.dup, 1) := by decide +kernel
theorem dL_stampsAreGood_64 : decode cL_stampsAreGood 64 = .ok (.iconst 1, 1) := by decide +kernel
theorem dL_stampsAreGood_65 : decode cL_stampsAreGood 65 = .ok (.iload 4, 2) := by decide +kernel
theorem dL_stampsAreGood_67 : decode cL_stampsAreGood 67 = .ok (.iastore, 1) := by decide +kernel
theorem dL_stampsAreGood_68 : decode cL_stampsAreGood 68 = .ok (.invokestatic 138, 3) := by decide +kernel
theorem dL_stampsAreGood_71 : decode cL_stampsAreGood 71 = .ok (.aload_n 2, 1) := by decide +kernel
theorem dL_stampsAreGood_72 : decode cL_stampsAreGood 72 = .ok (.iload 4, 2) := by decide +kernel
theorem dL_stampsAreGood_74 : decode cL_stampsAreGood 74 = .ok (.iaload, 1) := by decide +kernel
theorem dL_stampsAreGood_75 : decode cL_stampsAreGood 75 = .ok (.if_icmp .ne 28, 3) := by decide +kernel
theorem dL_stampsAreGood_78 : decode cL_stampsAreGood 78 = .ok (.aload_n 0, 1) := by decide +kernel
theorem dL_stampsAreGood_79 : decode cL_stampsAreGood 79 = .ok (.iconst 0, 1) := by decide +kernel
theorem dL_stampsAreGood_80 : decode cL_stampsAreGood 80 = .ok (.iconst 1, 1) := by decide +kernel
theorem dL_stampsAreGood_81 : decode cL_stampsAreGood 81 = .ok (.iconst 2, 1) := by decide +kernel
theorem dL_stampsAreGood_82 : decode cL_stampsAreGood 82 = .ok (.newarray .int, 2) := by decide +kernel
theorem dL_stampsAreGood_84 : decode cL_stampsAreGood 84 = .ok (.dup, 1) := by decide +kernel
theorem dL_stampsAreGood_85 : decode cL_stampsAreGood 85 = .ok (.iconst 0, 1) := by decide +kernel
theorem dL_stampsAreGood_86 : decode cL_stampsAreGood 86 = .ok (.iload_n 1, 1) := by decide +kernel
theorem dL_stampsAreGood_87 : decode cL_stampsAreGood 87 = .ok (.iastore, 1) := by decide +kernel
theorem dL_stampsAreGood_88 : decode cL_stampsAreGood 88 = .ok (.dup, 1) := by decide +kernel
theorem dL_stampsAreGood_89 : decode cL_stampsAreGood 89 = .ok (.iconst 1, 1) := by decide +kernel
theorem dL_stampsAreGood_90 : decode cL_stampsAreGood 90 = .ok (.iload 4, 2) := by decide +kernel
theorem dL_stampsAreGood_92 : decode cL_stampsAreGood 92 = .ok (.iastore, 1) := by decide +kernel
theorem dL_stampsAreGood_93 : decode cL_stampsAreGood 93 = .ok (.invokestatic 138, 3) := by decide +kernel
theorem dL_stampsAreGood_96 : decode cL_stampsAreGood 96 = .ok (.aload_n 3, 1) := by decide +kernel
theorem dL_stampsAreGood_97 : decode cL_stampsAreGood 97 = .ok (.iload 4, 2) := by decide +kernel
theorem dL_stampsAreGood_99 : decode cL_stampsAreGood 99 = .ok (.iaload, 1) := by decide +kernel
theorem dL_stampsAreGood_100 : decode cL_stampsAreGood 100 = .ok (.if_icmp .eq 5, 3) := by decide +kernel
theorem dL_stampsAreGood_103 : decode cL_stampsAreGood 103 = .ok (.iconst 0, 1) := by decide +kernel
theorem dL_stampsAreGood_104 : decode cL_stampsAreGood 104 = .ok (.ireturn, 1) := by decide +kernel
theorem dL_stampsAreGood_105 : decode cL_stampsAreGood 105 = .ok (.iinc 4 1, 3) := by decide +kernel
theorem dL_stampsAreGood_108 : decode cL_stampsAreGood 108 = .ok (.goto (-61), 3) := by decide +kernel
theorem dL_stampsAreGood_111 : decode cL_stampsAreGood 111 = .ok (.aload_n 0, 1) := by decide +kernel
theorem dL_stampsAreGood_112 : decode cL_stampsAreGood 112 = .ok (.iconst 1, 1) := by decide +kernel
theorem dL_stampsAreGood_113 : decode cL_stampsAreGood 113 = .ok (.iconst 0, 1) := by decide +kernel
theorem dL_stampsAreGood_114 : decode cL_stampsAreGood 114 = .ok (.iconst 4, 1) := by decide +kernel
theorem dL_stampsAreGood_115 : decode cL_stampsAreGood 115 = .ok (.newarray .int, 2) := by decide +kernel
theorem dL_stampsAreGood_117 : decode cL_stampsAreGood 117 = .ok (.dup, 1) := by decide +kernel
theorem dL_stampsAreGood_118 : decode cL_stampsAreGood 118 = .ok (.iconst 0, 1) := by decide +kernel
theorem dL_stampsAreGood_119 : decode cL_stampsAreGood 119 = .ok (.aload_n 2, 1) := by decide +kernel
theorem dL_stampsAreGood_120 : decode cL_stampsAreGood 120 = .ok (.iconst 0, 1) := by decide +kernel
theorem dL_stampsAreGood_121 : decode cL_stampsAreGood 121 = .ok (.iaload, 1) := by decide +kernel
theorem dL_stampsAreGood_122 : decode cL_stampsAreGood 122 = .ok (.iastore, 1) := by decide +kernel
theorem dL_stampsAreGood_123 : decode cL_stampsAreGood 123 = .ok (.dup, 1) := by decide +kernel
theorem dL_stampsAreGood_124 : decode cL_stampsAreGood 124 = .ok (.iconst 1, 1) := by decide +kernel
theorem dL_stampsAreGood_125 : decode cL_stampsAreGood 125 = .ok (.aload_n 2, 1) := by decide +kernel
theorem dL_stampsAreGood_126 : decode cL_stampsAreGood 126 = .ok (.iconst 1, 1) := by decide +kernel
theorem dL_stampsAreGood_127 : decode cL_stampsAreGood 127 = .ok (.iaload, 1) := by decide +kernel
theorem dL_stampsAreGood_128 : decode cL_stampsAreGood 128 = .ok (.iastore, 1) := by decide +kernel
theorem dL_stampsAreGood_129 : decode cL_stampsAreGood 129 = .ok (.dup, 1) := by decide +kernel
theorem dL_stampsAreGood_130 : decode cL_stampsAreGood 130 = .ok (.iconst 2, 1) := by decide +kernel
theorem dL_stampsAreGood_131 : decode cL_stampsAreGood 131 = .ok (.aload_n 2, 1) := by decide +kernel
theorem dL_stampsAreGood_132 : decode cL_stampsAreGood 132 = .ok (.iconst 2, 1) := by decide +kernel
theorem dL_stampsAreGood_133 : decode cL_stampsAreGood 133 = .ok (.iaload, 1) := by decide +kernel
theorem dL_stampsAreGood_134 : decode cL_stampsAreGood 134 = .ok (.iastore, 1) := by decide +kernel
theorem dL_stampsAreGood_135 : decode cL_stampsAreGood 135 = .ok (.dup, 1) := by decide +kernel
theorem dL_stampsAreGood_136 : decode cL_stampsAreGood 136 = .ok (.iconst 3, 1) := by decide +kernel
theorem dL_stampsAreGood_137 : decode cL_stampsAreGood 137 = .ok (.aload_n 2, 1) := by decide +kernel
theorem dL_stampsAreGood_138 : decode cL_stampsAreGood 138 = .ok (.iconst 3, 1) := by decide +kernel
theorem dL_stampsAreGood_139 : decode cL_stampsAreGood 139 = .ok (.iaload, 1) := by decide +kernel
theorem dL_stampsAreGood_140 : decode cL_stampsAreGood 140 = .ok (.iastore, 1) := by decide +kernel
theorem dL_stampsAreGood_141 : decode cL_stampsAreGood 141 = .ok (.invokestatic 138, 3) := by decide +kernel
theorem dL_stampsAreGood_144 : decode cL_stampsAreGood 144 = .ok (.iload_n 1, 1) := by decide +kernel
theorem dL_stampsAreGood_145 : decode cL_stampsAreGood 145 = .ok (.if_icmp .ne 44, 3) := by decide +kernel
theorem dL_stampsAreGood_148 : decode cL_stampsAreGood 148 = .ok (.aload_n 0, 1) := by decide +kernel
theorem dL_stampsAreGood_149 : decode cL_stampsAreGood 149 = .ok (.iconst 1, 1) := by decide +kernel
theorem dL_stampsAreGood_150 : decode cL_stampsAreGood 150 = .ok (.iconst 1, 1) := by decide +kernel
theorem dL_stampsAreGood_151 : decode cL_stampsAreGood 151 = .ok (.iconst 4, 1) := by decide +kernel
theorem dL_stampsAreGood_152 : decode cL_stampsAreGood 152 = .ok (.newarray .int, 2) := by decide +kernel
theorem dL_stampsAreGood_154 : decode cL_stampsAreGood 154 = .ok (.dup, 1) := by decide +kernel
theorem dL_stampsAreGood_155 : decode cL_stampsAreGood 155 = .ok (.iconst 0, 1) := by decide +kernel
theorem dL_stampsAreGood_156 : decode cL_stampsAreGood 156 = .ok (.aload_n 3, 1) := by decide +kernel
theorem dL_stampsAreGood_157 : decode cL_stampsAreGood 157 = .ok (.iconst 0, 1) := by decide +kernel
theorem dL_stampsAreGood_158 : decode cL_stampsAreGood 158 = .ok (.iaload, 1) := by decide +kernel
theorem dL_stampsAreGood_159 : decode cL_stampsAreGood 159 = .ok (.iastore, 1) := by decide +kernel
theorem dL_stampsAreGood_160 : decode cL_stampsAreGood 160 = .ok (.dup, 1) := by decide +kernel
theorem dL_stampsAreGood_161 : decode cL_stampsAreGood 161 = .ok (.iconst 1, 1) := by decide +kernel
theorem dL_stampsAreGood_162 : decode cL_stampsAreGood 162 = .ok (.aload_n 3, 1) := by decide +kernel
theorem dL_stampsAreGood_163 : decode cL_stampsAreGood 163 = .ok (.iconst 1, 1) := by decide +kernel
theorem dL_stampsAreGood_164 : decode cL_stampsAreGood 164 = .ok (.iaload, 1) := by decide +kernel
theorem dL_stampsAreGood_165 : decode cL_stampsAreGood 165 = .ok (.iastore, 1) := by decide +kernel
theorem dL_stampsAreGood_166 : decode cL_stampsAreGood 166 = .ok (.dup, 1) := by decide +kernel
theorem dL_stampsAreGood_167 : decode cL_stampsAreGood 167 = .ok (.iconst 2, 1) := by decide +kernel
theorem dL_stampsAreGood_168 : decode cL_stampsAreGood 168 = .ok (.aload_n 3, 1) := by decide +kernel
theorem dL_stampsAreGood_169 : decode cL_stampsAreGood 169 = .ok (.iconst 2, 1) := by decide +kernel
theorem dL_stampsAreGood_170 : decode cL_stampsAreGood 170 = .ok (.iaload, 1) := by decide +kernel
theorem dL_stampsAreGood_171 : decode cL_stampsAreGood 171 = .ok (.iastore, 1) := by decide +kernel
theorem dL_stampsAreGood_172 : decode cL_stampsAreGood 172 = .ok (.dup, 1) := by decide +kernel
theorem dL_stampsAreGood_173 : decode cL_stampsAreGood 173 = .ok (.iconst 3, 1) := by decide +kernel
theorem dL_stampsAreGood_174 : decode cL_stampsAreGood 174 = .ok (.aload_n 3, 1) := by decide +kernel
theorem dL_stampsAreGood_175 : decode cL_stampsAreGood 175 = .ok (.iconst 3, 1) := by decide +kernel
theorem dL_stampsAreGood_176 : decode cL_stampsAreGood 176 = .ok (.iaload, 1) := by decide +kernel
theorem dL_stampsAreGood_177 : decode cL_stampsAreGood 177 = .ok (.iastore, 1) := by decide +kernel
theorem dL_stampsAreGood_178 : decode cL_stampsAreGood 178 = .ok (.invokestatic 138, 3) := by decide +kernel
theorem dL_stampsAreGood_181 : decode cL_stampsAreGood 181 = .ok (.iload_n 1, 1) := by decide +kernel
theorem dL_stampsAreGood_182 : decode cL_stampsAreGood 182 = .ok (.if_icmp .ne 7, 3) := by decide +kernel
theorem dL_stampsAreGood_185 : decode cL_stampsAreGood 185 = .ok (.iconst 1, 1) := by decide +kernel
theorem dL_stampsAreGood_186 : decode cL_stampsAreGood 186 = .ok (.goto 4, 3) := by decide +kernel
theorem dL_stampsAreGood_189 : decode cL_stampsAreGood 189 = .ok (.iconst 0, 1) := by decide +kernel
theorem dL_stampsAreGood_190 : decode cL_stampsAreGood 190 = .ok (.ireturn, 1) := by decide +kernel
theorem dL_snapped_0 : decode cL_snapped 0 = .ok (.iload_n 0, 1) := by decide +kernel
theorem dL_snapped_1 : decode cL_snapped 1 = .ok (.istore 4, 2) := by decide +kernel
theorem dL_snapped_3 : decode cL_snapped 3 = .ok (.iload_n 3, 1) := by decide +kernel
theorem dL_snapped_4 : decode cL_snapped 4 = .ok (.istore 5, 2) := by decide +kernel
theorem dL_snapped_6 : decode cL_snapped 6 = .ok (.iload 5, 2) := by decide +kernel
theorem dL_snapped_8 : decode cL_snapped 8 = .ok (.ifCond .lt 83, 3) := by decide +kernel
theorem dL_snapped_11 : decode cL_snapped 11 = .ok (.iconst 0, 1) := by decide +kernel
theorem dL_snapped_12 : decode cL_snapped 12 = .ok (.istore 6, 2) := by decide +kernel
theorem dL_snapped_14 : decode cL_snapped 14 = .ok (.iload 6, 2) := by decide +kernel
theorem dL_snapped_16 : decode cL_snapped 16 = .ok (.iload_n 2, 1) := by decide +kernel
theorem dL_snapped_17 : decode cL_snapped 17 = .ok (.if_icmp .ge 31, 3) := by decide +kernel
theorem dL_snapped_20 : decode cL_snapped 20 = .ok (.aload_n 1, 1) := by decide +kernel
theorem dL_snapped_21 : decode cL_snapped 21 = .ok (.iload 6, 2) := by decide +kernel
theorem dL_snapped_23 : decode cL_snapped 23 = .ok (.iaload, 1) := by decide +kernel
theorem dL_snapped_24 : decode cL_snapped 24 = .ok (.iload_n 0, 1) := by decide +kernel
theorem dL_snapped_25 : decode cL_snapped 25 = .ok (.iload 5, 2) := by decide +kernel
theorem dL_snapped_27 : decode cL_snapped 27 = .ok (.iadd, 1) := by decide +kernel
theorem dL_snapped_28 : decode cL_snapped 28 = .ok (.if_icmp .ne 10, 3) := by decide +kernel
theorem dL_snapped_31 : decode cL_snapped 31 = .ok (.aload_n 1, 1) := by decide +kernel
theorem dL_snapped_32 : decode cL_snapped 32 = .ok (.iload 6, 2) := by decide +kernel
theorem dL_snapped_34 : decode cL_snapped 34 = .ok (.iaload, 1) := by decide +kernel
theorem dL_snapped_35 : decode cL_snapped 35 = .ok (.goto 5, 3) := by decide +kernel
theorem dL_snapped_38 : decode cL_snapped 38 = .ok (.iload 4, 2) := by decide +kernel
theorem dL_snapped_40 : decode cL_snapped 40 = .ok (.istore 4, 2) := by decide +kernel
theorem dL_snapped_42 : decode cL_snapped 42 = .ok (.iinc 6 1, 3) := by decide +kernel
theorem dL_snapped_45 : decode cL_snapped 45 = .ok (.goto (-31), 3) := by decide +kernel
theorem dL_snapped_48 : decode cL_snapped 48 = .ok (.iconst 0, 1) := by decide +kernel
theorem dL_snapped_49 : decode cL_snapped 49 = .ok (.istore 6, 2) := by decide +kernel
theorem dL_snapped_51 : decode cL_snapped 51 = .ok (.iload 6, 2) := by decide +kernel
theorem dL_snapped_53 : decode cL_snapped 53 = .ok (.iload_n 2, 1) := by decide +kernel
theorem dL_snapped_54 : decode cL_snapped 54 = .ok (.if_icmp .ge 31, 3) := by decide +kernel
theorem dL_snapped_57 : decode cL_snapped 57 = .ok (.aload_n 1, 1) := by decide +kernel
theorem dL_snapped_58 : decode cL_snapped 58 = .ok (.iload 6, 2) := by decide +kernel
theorem dL_snapped_60 : decode cL_snapped 60 = .ok (.iaload, 1) := by decide +kernel
theorem dL_snapped_61 : decode cL_snapped 61 = .ok (.iload_n 0, 1) := by decide +kernel
theorem dL_snapped_62 : decode cL_snapped 62 = .ok (.iload 5, 2) := by decide +kernel
theorem dL_snapped_64 : decode cL_snapped 64 = .ok (.isub, 1) := by decide +kernel
theorem dL_snapped_65 : decode cL_snapped 65 = .ok (.if_icmp .ne 10, 3) := by decide +kernel
theorem dL_snapped_68 : decode cL_snapped 68 = .ok (.aload_n 1, 1) := by decide +kernel
theorem dL_snapped_69 : decode cL_snapped 69 = .ok (.iload 6, 2) := by decide +kernel
theorem dL_snapped_71 : decode cL_snapped 71 = .ok (.iaload, 1) := by decide +kernel
theorem dL_snapped_72 : decode cL_snapped 72 = .ok (.goto 5, 3) := by decide +kernel
theorem dL_snapped_75 : decode cL_snapped 75 = .ok (.iload 4, 2) := by decide +kernel
theorem dL_snapped_77 : decode cL_snapped 77 = .ok (.istore 4, 2) := by decide +kernel
theorem dL_snapped_79 : decode cL_snapped 79 = .ok (.iinc 6 1, 3) := by decide +kernel
theorem dL_snapped_82 : decode cL_snapped 82 = .ok (.goto (-31), 3) := by decide +kernel
theorem dL_snapped_85 : decode cL_snapped 85 = .ok (.iinc 5 (-1), 3) := by decide +kernel
theorem dL_snapped_88 : decode cL_snapped 88 = .ok (.goto (-82), 3) := by decide +kernel
theorem dL_snapped_91 : decode cL_snapped 91 = .ok (.iload 4, 2) := by decide +kernel
theorem dL_snapped_93 : decode cL_snapped 93 = .ok (.ireturn, 1) := by decide +kernel
