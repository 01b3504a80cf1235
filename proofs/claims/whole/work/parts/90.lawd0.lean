/-! the law, row by row (0) -/
theorem dL_law_0 : decode code 0 = .ok (.new 8, 3) := by decide +kernel
theorem dL_law_3 : decode code 3 = .ok (.dup, 1) := by decide +kernel
theorem dL_law_4 : decode code 4 = .ok (.invokespecial 15, 3) := by decide +kernel
theorem dL_law_7 : decode code 7 = .ok (.astore_n 1, 1) := by decide +kernel
theorem dL_law_8 : decode code 8 = .ok (.new 16, 3) := by decide +kernel
theorem dL_law_11 : decode code 11 = .ok (.dup, 1) := by decide +kernel
theorem dL_law_12 : decode code 12 = .ok (.invokespecial 18, 3) := by decide +kernel
theorem dL_law_15 : decode code 15 = .ok (.astore_n 2, 1) := by decide +kernel
theorem dL_law_16 : decode code 16 = .ok (.iconst 1, 1) := by decide +kernel
theorem dL_law_17 : decode code 17 = .ok (.newarray .long, 2) := by decide +kernel
theorem dL_law_19 : decode code 19 = .ok (.astore_n 3, 1) := by decide +kernel
theorem dL_law_20 : decode code 20 = .ok (.iconst 0, 1) := by decide +kernel
theorem dL_law_21 : decode code 21 = .ok (.istore 4, 2) := by decide +kernel
theorem dL_law_23 : decode code 23 = .ok (.iload 4, 2) := by decide +kernel
theorem dL_law_25 : decode code 25 = .ok (.aload_n 0, 1) := by decide +kernel
theorem dL_law_26 : decode code 26 = .ok (.arraylength, 1) := by decide +kernel
theorem dL_law_27 : decode code 27 = .ok (.bipush 6, 2) := by decide +kernel
theorem dL_law_29 : decode code 29 = .ok (.isub, 1) := by decide +kernel
theorem dL_law_30 : decode code 30 = .ok (.if_icmp .gt 1464, 3) := by decide +kernel
theorem dL_law_33 : decode code 33 = .ok (.aload_n 0, 1) := by decide +kernel
theorem dL_law_34 : decode code 34 = .ok (.iload 4, 2) := by decide +kernel
theorem dL_law_36 : decode code 36 = .ok (.iaload, 1) := by decide +kernel
theorem dL_law_37 : decode code 37 = .ok (.bipush 63, 2) := by decide +kernel
theorem dL_law_39 : decode code 39 = .ok (.iand, 1) := by decide +kernel
theorem dL_law_40 : decode code 40 = .ok (.tableswitch 1448 0 40 #[180, 253, 278, 303, 328, 396, 445, 494, 507, 556, 605, 618, 655, 692, 705, 730, 755, 768, 793, 842, 891, 928, 941, 966, 979, 1016, 1041, 1054, 1067, 1080, 1117, 1142, 1179, 1192, 1241, 1278, 1303, 1372, 1397, 1410, 1423], 180) := by decide +kernel
theorem dL_law_220 : decode code 220 = .ok (.aload_n 1, 1) := by decide +kernel
theorem dL_law_221 : decode code 221 = .ok (.aload_n 0, 1) := by decide +kernel
theorem dL_law_222 : decode code 222 = .ok (.iload 4, 2) := by decide +kernel
theorem dL_law_224 : decode code 224 = .ok (.iconst 1, 1) := by decide +kernel
theorem dL_law_225 : decode code 225 = .ok (.iadd, 1) := by decide +kernel
theorem dL_law_226 : decode code 226 = .ok (.iaload, 1) := by decide +kernel
theorem dL_law_227 : decode code 227 = .ok (.aload_n 0, 1) := by decide +kernel
theorem dL_law_228 : decode code 228 = .ok (.iload 4, 2) := by decide +kernel
theorem dL_law_230 : decode code 230 = .ok (.iconst 2, 1) := by decide +kernel
theorem dL_law_231 : decode code 231 = .ok (.iadd, 1) := by decide +kernel
theorem dL_law_232 : decode code 232 = .ok (.iaload, 1) := by decide +kernel
theorem dL_law_233 : decode code 233 = .ok (.aload_n 0, 1) := by decide +kernel
theorem dL_law_234 : decode code 234 = .ok (.iload 4, 2) := by decide +kernel
theorem dL_law_236 : decode code 236 = .ok (.iconst 3, 1) := by decide +kernel
theorem dL_law_237 : decode code 237 = .ok (.iadd, 1) := by decide +kernel
theorem dL_law_238 : decode code 238 = .ok (.iaload, 1) := by decide +kernel
theorem dL_law_239 : decode code 239 = .ok (.aload_n 0, 1) := by decide +kernel
theorem dL_law_240 : decode code 240 = .ok (.iload 4, 2) := by decide +kernel
theorem dL_law_242 : decode code 242 = .ok (.iconst 4, 1) := by decide +kernel
theorem dL_law_243 : decode code 243 = .ok (.iadd, 1) := by decide +kernel
theorem dL_law_244 : decode code 244 = .ok (.iaload, 1) := by decide +kernel
theorem dL_law_245 : decode code 245 = .ok (.aload_n 0, 1) := by decide +kernel
theorem dL_law_246 : decode code 246 = .ok (.iload 4, 2) := by decide +kernel
theorem dL_law_248 : decode code 248 = .ok (.iconst 5, 1) := by decide +kernel
theorem dL_law_249 : decode code 249 = .ok (.iadd, 1) := by decide +kernel
theorem dL_law_250 : decode code 250 = .ok (.iaload, 1) := by decide +kernel
theorem dL_law_251 : decode code 251 = .ok (.invokevirtual 19, 3) := by decide +kernel
theorem dL_law_254 : decode code 254 = .ok (.aload_n 2, 1) := by decide +kernel
theorem dL_law_255 : decode code 255 = .ok (.aload_n 0, 1) := by decide +kernel
theorem dL_law_256 : decode code 256 = .ok (.iload 4, 2) := by decide +kernel
theorem dL_law_258 : decode code 258 = .ok (.iconst 1, 1) := by decide +kernel
theorem dL_law_259 : decode code 259 = .ok (.iadd, 1) := by decide +kernel
theorem dL_law_260 : decode code 260 = .ok (.iaload, 1) := by decide +kernel
theorem dL_law_261 : decode code 261 = .ok (.aload_n 0, 1) := by decide +kernel
theorem dL_law_262 : decode code 262 = .ok (.iload 4, 2) := by decide +kernel
theorem dL_law_264 : decode code 264 = .ok (.iconst 2, 1) := by decide +kernel
theorem dL_law_265 : decode code 265 = .ok (.iadd, 1) := by decide +kernel
theorem dL_law_266 : decode code 266 = .ok (.iaload, 1) := by decide +kernel
theorem dL_law_267 : decode code 267 = .ok (.aload_n 0, 1) := by decide +kernel
theorem dL_law_268 : decode code 268 = .ok (.iload 4, 2) := by decide +kernel
theorem dL_law_270 : decode code 270 = .ok (.iconst 3, 1) := by decide +kernel
theorem dL_law_271 : decode code 271 = .ok (.iadd, 1) := by decide +kernel
theorem dL_law_272 : decode code 272 = .ok (.iaload, 1) := by decide +kernel
theorem dL_law_273 : decode code 273 = .ok (.aload_n 0, 1) := by decide +kernel
theorem dL_law_274 : decode code 274 = .ok (.iload 4, 2) := by decide +kernel
theorem dL_law_276 : decode code 276 = .ok (.iconst 4, 1) := by decide +kernel
theorem dL_law_277 : decode code 277 = .ok (.iadd, 1) := by decide +kernel
theorem dL_law_278 : decode code 278 = .ok (.iaload, 1) := by decide +kernel
theorem dL_law_279 : decode code 279 = .ok (.aload_n 0, 1) := by decide +kernel
theorem dL_law_280 : decode code 280 = .ok (.iload 4, 2) := by decide +kernel
theorem dL_law_282 : decode code 282 = .ok (.iconst 5, 1) := by decide +kernel
theorem dL_law_283 : decode code 283 = .ok (.iadd, 1) := by decide +kernel
theorem dL_law_284 : decode code 284 = .ok (.iaload, 1) := by decide +kernel
theorem dL_law_285 : decode code 285 = .ok (.invokevirtual 23, 3) := by decide +kernel
theorem dL_law_288 : decode code 288 = .ok (.if_icmp .eq 1200, 3) := by decide +kernel
theorem dL_law_291 : decode code 291 = .ok (.iconst 0, 1) := by decide +kernel
theorem dL_law_292 : decode code 292 = .ok (.ireturn, 1) := by decide +kernel
theorem dL_law_293 : decode code 293 = .ok (.aload_n 1, 1) := by decide +kernel
theorem dL_law_294 : decode code 294 = .ok (.aload_n 0, 1) := by decide +kernel
theorem dL_law_295 : decode code 295 = .ok (.iload 4, 2) := by decide +kernel
theorem dL_law_297 : decode code 297 = .ok (.iconst 1, 1) := by decide +kernel
theorem dL_law_298 : decode code 298 = .ok (.iadd, 1) := by decide +kernel
theorem dL_law_299 : decode code 299 = .ok (.iaload, 1) := by decide +kernel
theorem dL_law_300 : decode code 300 = .ok (.invokevirtual 24, 3) := by decide +kernel
theorem dL_law_303 : decode code 303 = .ok (.aload_n 2, 1) := by decide +kernel
theorem dL_law_304 : decode code 304 = .ok (.aload_n 0, 1) := by decide +kernel
theorem dL_law_305 : decode code 305 = .ok (.iload 4, 2) := by decide +kernel
theorem dL_law_307 : decode code 307 = .ok (.iconst 1, 1) := by decide +kernel
theorem dL_law_308 : decode code 308 = .ok (.iadd, 1) := by decide +kernel
theorem dL_law_309 : decode code 309 = .ok (.iaload, 1) := by decide +kernel
theorem dL_law_310 : decode code 310 = .ok (.invokevirtual 28, 3) := by decide +kernel
theorem dL_law_313 : decode code 313 = .ok (.if_icmp .eq 1175, 3) := by decide +kernel
theorem dL_law_316 : decode code 316 = .ok (.iconst 0, 1) := by decide +kernel
theorem dL_law_317 : decode code 317 = .ok (.ireturn, 1) := by decide +kernel
theorem dL_law_318 : decode code 318 = .ok (.aload_n 1, 1) := by decide +kernel
theorem dL_law_319 : decode code 319 = .ok (.aload_n 0, 1) := by decide +kernel
theorem dL_law_320 : decode code 320 = .ok (.iload 4, 2) := by decide +kernel
theorem dL_law_322 : decode code 322 = .ok (.iconst 1, 1) := by decide +kernel
theorem dL_law_323 : decode code 323 = .ok (.iadd, 1) := by decide +kernel
theorem dL_law_324 : decode code 324 = .ok (.iaload, 1) := by decide +kernel
theorem dL_law_325 : decode code 325 = .ok (.invokevirtual 29, 3) := by decide +kernel
theorem dL_law_328 : decode code 328 = .ok (.aload_n 2, 1) := by decide +kernel
theorem dL_law_329 : decode code 329 = .ok (.aload_n 0, 1) := by decide +kernel
theorem dL_law_330 : decode code 330 = .ok (.iload 4, 2) := by decide +kernel
theorem dL_law_332 : decode code 332 = .ok (.iconst 1, 1) := by decide +kernel
theorem dL_law_333 : decode code 333 = .ok (.iadd, 1) := by decide +kernel
theorem dL_law_334 : decode code 334 = .ok (.iaload, 1) := by decide +kernel
theorem dL_law_335 : decode code 335 = .ok (.invokevirtual 33, 3) := by decide +kernel
theorem dL_law_338 : decode code 338 = .ok (.if_icmp .eq 1150, 3) := by decide +kernel
theorem dL_law_341 : decode code 341 = .ok (.iconst 0, 1) := by decide +kernel
theorem dL_law_342 : decode code 342 = .ok (.ireturn, 1) := by decide +kernel
theorem dL_law_343 : decode code 343 = .ok (.aload_n 1, 1) := by decide +kernel
theorem dL_law_344 : decode code 344 = .ok (.aload_n 0, 1) := by decide +kernel
theorem dL_law_345 : decode code 345 = .ok (.iload 4, 2) := by decide +kernel
theorem dL_law_347 : decode code 347 = .ok (.iconst 1, 1) := by decide +kernel
theorem dL_law_348 : decode code 348 = .ok (.iadd, 1) := by decide +kernel
theorem dL_law_349 : decode code 349 = .ok (.iaload, 1) := by decide +kernel
theorem dL_law_350 : decode code 350 = .ok (.invokevirtual 34, 3) := by decide +kernel
theorem dL_law_353 : decode code 353 = .ok (.aload_n 2, 1) := by decide +kernel
theorem dL_law_354 : decode code 354 = .ok (.aload_n 0, 1) := by decide +kernel
theorem dL_law_355 : decode code 355 = .ok (.iload 4, 2) := by decide +kernel
theorem dL_law_357 : decode code 357 = .ok (.iconst 1, 1) := by decide +kernel
theorem dL_law_358 : decode code 358 = .ok (.iadd, 1) := by decide +kernel
theorem dL_law_359 : decode code 359 = .ok (.iaload, 1) := by decide +kernel
theorem dL_law_360 : decode code 360 = .ok (.invokevirtual 37, 3) := by decide +kernel
theorem dL_law_363 : decode code 363 = .ok (.if_icmp .eq 1125, 3) := by decide +kernel
theorem dL_law_366 : decode code 366 = .ok (.iconst 0, 1) := by decide +kernel
theorem dL_law_367 : decode code 367 = .ok (.ireturn, 1) := by decide +kernel
theorem dL_law_368 : decode code 368 = .ok (.aload_n 1, 1) := by decide +kernel
theorem dL_law_369 : decode code 369 = .ok (.aload_n 0, 1) := by decide +kernel
theorem dL_law_370 : decode code 370 = .ok (.iload 4, 2) := by decide +kernel
theorem dL_law_372 : decode code 372 = .ok (.iconst 1, 1) := by decide +kernel
theorem dL_law_373 : decode code 373 = .ok (.iadd, 1) := by decide +kernel
theorem dL_law_374 : decode code 374 = .ok (.iaload, 1) := by decide +kernel
theorem dL_law_375 : decode code 375 = .ok (.aload_n 0, 1) := by decide +kernel
theorem dL_law_376 : decode code 376 = .ok (.iload 4, 2) := by decide +kernel
theorem dL_law_378 : decode code 378 = .ok (.iconst 2, 1) := by decide +kernel
theorem dL_law_379 : decode code 379 = .ok (.iadd, 1) := by decide +kernel
theorem dL_law_380 : decode code 380 = .ok (.iaload, 1) := by decide +kernel
theorem dL_law_381 : decode code 381 = .ok (.aload_n 3, 1) := by decide +kernel
theorem dL_law_382 : decode code 382 = .ok (.invokestatic 38, 3) := by decide +kernel
theorem dL_law_385 : decode code 385 = .ok (.istore 5, 2) := by decide +kernel
theorem dL_law_387 : decode code 387 = .ok (.aload_n 2, 1) := by decide +kernel
theorem dL_law_388 : decode code 388 = .ok (.aload_n 0, 1) := by decide +kernel
theorem dL_law_389 : decode code 389 = .ok (.iload 4, 2) := by decide +kernel
theorem dL_law_391 : decode code 391 = .ok (.iconst 1, 1) := by decide +kernel
theorem dL_law_392 : decode code 392 = .ok (.iadd, 1) := by decide +kernel
theorem dL_law_393 : decode code 393 = .ok (.iaload, 1) := by decide +kernel
theorem dL_law_394 : decode code 394 = .ok (.aload_n 0, 1) := by decide +kernel
theorem dL_law_395 : decode code 395 = .ok (.iload 4, 2) := by decide +kernel
theorem dL_law_397 : decode code 397 = .ok (.iconst 2, 1) := by decide +kernel
theorem dL_law_398 : decode code 398 = .ok (.iadd, 1) := by decide +kernel
theorem dL_law_399 : decode code 399 = .ok (.iaload, 1) := by decide +kernel
theorem dL_law_400 : decode code 400 = .ok (.invokevirtual 43, 3) := by decide +kernel
theorem dL_law_403 : decode code 403 = .ok (.istore 6, 2) := by decide +kernel
theorem dL_law_405 : decode code 405 = .ok (.aload_n 2, 1) := by decide +kernel
theorem dL_law_406 : decode code 406 = .ok (.invokevirtual 44, 3) := by decide +kernel
theorem dL_law_409 : decode code 409 = .ok (.iload 5, 2) := by decide +kernel
theorem dL_law_411 : decode code 411 = .ok (.if_icmp .eq 5, 3) := by decide +kernel
theorem dL_law_414 : decode code 414 = .ok (.iconst 0, 1) := by decide +kernel
theorem dL_law_415 : decode code 415 = .ok (.ireturn, 1) := by decide +kernel
theorem dL_law_416 : decode code 416 = .ok (.iload 5, 2) := by decide +kernel
theorem dL_law_418 : decode code 418 = .ok (.ifCond .ne 15, 3) := by decide +kernel
theorem dL_law_421 : decode code 421 = .ok (.aload_n 3, 1) := by decide +kernel
theorem dL_law_422 : decode code 422 = .ok (.iconst 0, 1) := by decide +kernel
theorem dL_law_423 : decode code 423 = .ok (.laload, 1) := by decide +kernel
theorem dL_law_424 : decode code 424 = .ok (.iload 6, 2) := by decide +kernel
theorem dL_law_426 : decode code 426 = .ok (.i2l, 1) := by decide +kernel
theorem dL_law_427 : decode code 427 = .ok (.lcmp, 1) := by decide +kernel
theorem dL_law_428 : decode code 428 = .ok (.ifCond .eq 5, 3) := by decide +kernel
theorem dL_law_431 : decode code 431 = .ok (.iconst 0, 1) := by decide +kernel
theorem dL_law_432 : decode code 432 = .ok (.ireturn, 1) := by decide +kernel
theorem dL_law_433 : decode code 433 = .ok (.goto 1055, 3) := by decide +kernel
theorem dL_law_436 : decode code 436 = .ok (.aload_n 1, 1) := by decide +kernel
theorem dL_law_437 : decode code 437 = .ok (.aload_n 0, 1) := by decide +kernel
theorem dL_law_438 : decode code 438 = .ok (.iload 4, 2) := by decide +kernel
theorem dL_law_440 : decode code 440 = .ok (.iconst 1, 1) := by decide +kernel
theorem dL_law_441 : decode code 441 = .ok (.iadd, 1) := by decide +kernel
theorem dL_law_442 : decode code 442 = .ok (.iaload, 1) := by decide +kernel
theorem dL_law_443 : decode code 443 = .ok (.aload_n 0, 1) := by decide +kernel
theorem dL_law_444 : decode code 444 = .ok (.iload 4, 2) := by decide +kernel
theorem dL_law_446 : decode code 446 = .ok (.iconst 2, 1) := by decide +kernel
theorem dL_law_447 : decode code 447 = .ok (.iadd, 1) := by decide +kernel
theorem dL_law_448 : decode code 448 = .ok (.iaload, 1) := by decide +kernel
theorem dL_law_449 : decode code 449 = .ok (.aload_n 0, 1) := by decide +kernel
theorem dL_law_450 : decode code 450 = .ok (.iload 4, 2) := by decide +kernel
theorem dL_law_452 : decode code 452 = .ok (.iconst 3, 1) := by decide +kernel
theorem dL_law_453 : decode code 453 = .ok (.iadd, 1) := by decide +kernel
theorem dL_law_454 : decode code 454 = .ok (.iaload, 1) := by decide +kernel
theorem dL_law_455 : decode code 455 = .ok (.invokevirtual 48, 3) := by decide +kernel
theorem dL_law_458 : decode code 458 = .ok (.aload_n 2, 1) := by decide +kernel
theorem dL_law_459 : decode code 459 = .ok (.aload_n 0, 1) := by decide +kernel
theorem dL_law_460 : decode code 460 = .ok (.iload 4, 2) := by decide +kernel
theorem dL_law_462 : decode code 462 = .ok (.iconst 1, 1) := by decide +kernel
theorem dL_law_463 : decode code 463 = .ok (.iadd, 1) := by decide +kernel
theorem dL_law_464 : decode code 464 = .ok (.iaload, 1) := by decide +kernel
theorem dL_law_465 : decode code 465 = .ok (.aload_n 0, 1) := by decide +kernel
theorem dL_law_466 : decode code 466 = .ok (.iload 4, 2) := by decide +kernel
theorem dL_law_468 : decode code 468 = .ok (.iconst 2, 1) := by decide +kernel
theorem dL_law_469 : decode code 469 = .ok (.iadd, 1) := by decide +kernel
theorem dL_law_470 : decode code 470 = .ok (.iaload, 1) := by decide +kernel
theorem dL_law_471 : decode code 471 = .ok (.aload_n 0, 1) := by decide +kernel
theorem dL_law_472 : decode code 472 = .ok (.iload 4, 2) := by decide +kernel
theorem dL_law_474 : decode code 474 = .ok (.iconst 3, 1) := by decide +kernel
theorem dL_law_475 : decode code 475 = .ok (.iadd, 1) := by decide +kernel
theorem dL_law_476 : decode code 476 = .ok (.iaload, 1) := by decide +kernel
theorem dL_law_477 : decode code 477 = .ok (.invokevirtual 52, 3) := by decide +kernel
theorem dL_law_480 : decode code 480 = .ok (.if_icmp .eq 1008, 3) := by decide +kernel
theorem dL_law_483 : decode code 483 = .ok (.iconst 0, 1) := by decide +kernel
theorem dL_law_484 : decode code 484 = .ok (.ireturn, 1) := by decide +kernel
theorem dL_law_485 : decode code 485 = .ok (.aload_n 1, 1) := by decide +kernel
theorem dL_law_486 : decode code 486 = .ok (.aload_n 0, 1) := by decide +kernel
theorem dL_law_487 : decode code 487 = .ok (.iload 4, 2) := by decide +kernel
theorem dL_law_489 : decode code 489 = .ok (.iconst 1, 1) := by decide +kernel
theorem dL_law_490 : decode code 490 = .ok (.iadd, 1) := by decide +kernel
theorem dL_law_491 : decode code 491 = .ok (.iaload, 1) := by decide +kernel
theorem dL_law_492 : decode code 492 = .ok (.aload_n 0, 1) := by decide +kernel
theorem dL_law_493 : decode code 493 = .ok (.iload 4, 2) := by decide +kernel
theorem dL_law_495 : decode code 495 = .ok (.iconst 2, 1) := by decide +kernel
theorem dL_law_496 : decode code 496 = .ok (.iadd, 1) := by decide +kernel
theorem dL_law_497 : decode code 497 = .ok (.iaload, 1) := by decide +kernel
theorem dL_law_498 : decode code 498 = .ok (.aload_n 0, 1) := by decide +kernel
theorem dL_law_499 : decode code 499 = .ok (.iload 4, 2) := by decide +kernel
theorem dL_law_501 : decode code 501 = .ok (.iconst 3, 1) := by decide +kernel
theorem dL_law_502 : decode code 502 = .ok (.iadd, 1) := by decide +kernel
theorem dL_law_503 : decode code 503 = .ok (.iaload, 1) := by decide +kernel
theorem dL_law_504 : decode code 504 = .ok (.invokevirtual 53, 3) := by decide +kernel
theorem dL_law_507 : decode code 507 = .ok (.aload_n 2, 1) := by decide +kernel
theorem dL_law_508 : decode code 508 = .ok (.aload_n 0, 1) := by decide +kernel
theorem dL_law_509 : decode code 509 = .ok (.iload 4, 2) := by decide +kernel
theorem dL_law_511 : decode code 511 = .ok (.iconst 1, 1) := by decide +kernel
theorem dL_law_512 : decode code 512 = .ok (.iadd, 1) := by decide +kernel
theorem dL_law_513 : decode code 513 = .ok (.iaload, 1) := by decide +kernel
theorem dL_law_514 : decode code 514 = .ok (.aload_n 0, 1) := by decide +kernel
theorem dL_law_515 : decode code 515 = .ok (.iload 4, 2) := by decide +kernel
theorem dL_law_517 : decode code 517 = .ok (.iconst 2, 1) := by decide +kernel
theorem dL_law_518 : decode code 518 = .ok (.iadd, 1) := by decide +kernel
theorem dL_law_519 : decode code 519 = .ok (.iaload, 1) := by decide +kernel
theorem dL_law_520 : decode code 520 = .ok (.aload_n 0, 1) := by decide +kernel
theorem dL_law_521 : decode code 521 = .ok (.iload 4, 2) := by decide +kernel
theorem dL_law_523 : decode code 523 = .ok (.iconst 3, 1) := by decide +kernel
theorem dL_law_524 : decode code 524 = .ok (.iadd, 1) := by decide +kernel
theorem dL_law_525 : decode code 525 = .ok (.iaload, 1) := by decide +kernel
theorem dL_law_526 : decode code 526 = .ok (.invokevirtual 56, 3) := by decide +kernel
theorem dL_law_529 : decode code 529 = .ok (.if_icmp .eq 959, 3) := by decide +kernel
theorem dL_law_532 : decode code 532 = .ok (.iconst 0, 1) := by decide +kernel
theorem dL_law_533 : decode code 533 = .ok (.ireturn, 1) := by decide +kernel
theorem dL_law_534 : decode code 534 = .ok (.aload_n 1, 1) := by decide +kernel
theorem dL_law_535 : decode code 535 = .ok (.invokevirtual 57, 3) := by decide +kernel
theorem dL_law_538 : decode code 538 = .ok (.aload_n 2, 1) := by decide +kernel
theorem dL_law_539 : decode code 539 = .ok (.invokevirtual 60, 3) := by decide +kernel
theorem dL_law_542 : decode code 542 = .ok (.if_icmp .eq 946, 3) := by decide +kernel
theorem dL_law_545 : decode code 545 = .ok (.iconst 0, 1) := by decide +kernel
theorem dL_law_546 : decode code 546 = .ok (.ireturn, 1) := by decide +kernel
theorem dL_law_547 : decode code 547 = .ok (.aload_n 1, 1) := by decide +kernel
theorem dL_law_548 : decode code 548 = .ok (.aload_n 0, 1) := by decide +kernel
theorem dL_law_549 : decode code 549 = .ok (.iload 4, 2) := by decide +kernel
theorem dL_law_551 : decode code 551 = .ok (.iconst 1, 1) := by decide +kernel
theorem dL_law_552 : decode code 552 = .ok (.iadd, 1) := by decide +kernel
theorem dL_law_553 : decode code 553 = .ok (.iaload, 1) := by decide +kernel
theorem dL_law_554 : decode code 554 = .ok (.aload_n 0, 1) := by decide +kernel
theorem dL_law_555 : decode code 555 = .ok (.iload 4, 2) := by decide +kernel
theorem dL_law_557 : decode code 557 = .ok (.iconst 2, 1) := by decide +kernel
theorem dL_law_558 : decode code 558 = .ok (.iadd, 1) := by decide +kernel
theorem dL_law_559 : decode code 559 = .ok (.iaload, 1) := by decide +kernel
theorem dL_law_560 : decode code 560 = .ok (.aload_n 0, 1) := by decide +kernel
theorem dL_law_561 : decode code 561 = .ok (.iload 4, 2) := by decide +kernel
theorem dL_law_563 : decode code 563 = .ok (.iconst 3, 1) := by decide +kernel
theorem dL_law_564 : decode code 564 = .ok (.iadd, 1) := by decide +kernel
theorem dL_law_565 : decode code 565 = .ok (.iaload, 1) := by decide +kernel
theorem dL_law_566 : decode code 566 = .ok (.invokevirtual 61, 3) := by decide +kernel
theorem dL_law_569 : decode code 569 = .ok (.aload_n 2, 1) := by decide +kernel
theorem dL_law_570 : decode code 570 = .ok (.aload_n 0, 1) := by decide +kernel
theorem dL_law_571 : decode code 571 = .ok (.iload 4, 2) := by decide +kernel
theorem dL_law_573 : decode code 573 = .ok (.iconst 1, 1) := by decide +kernel
theorem dL_law_574 : decode code 574 = .ok (.iadd, 1) := by decide +kernel
theorem dL_law_575 : decode code 575 = .ok (.iaload, 1) := by decide +kernel
theorem dL_law_576 : decode code 576 = .ok (.aload_n 0, 1) := by decide +kernel
theorem dL_law_577 : decode code 577 = .ok (.iload 4, 2) := by decide +kernel
theorem dL_law_579 : decode code 579 = .ok (.iconst 2, 1) := by decide +kernel
theorem dL_law_580 : decode code 580 = .ok (.iadd, 1) := by decide +kernel
theorem dL_law_581 : decode code 581 = .ok (.iaload, 1) := by decide +kernel
theorem dL_law_582 : decode code 582 = .ok (.aload_n 0, 1) := by decide +kernel
theorem dL_law_583 : decode code 583 = .ok (.iload 4, 2) := by decide +kernel
theorem dL_law_585 : decode code 585 = .ok (.iconst 3, 1) := by decide +kernel
theorem dL_law_586 : decode code 586 = .ok (.iadd, 1) := by decide +kernel
theorem dL_law_587 : decode code 587 = .ok (.iaload, 1) := by decide +kernel
theorem dL_law_588 : decode code 588 = .ok (.invokevirtual 64, 3) := by decide +kernel
theorem dL_law_591 : decode code 591 = .ok (.if_icmp .eq 897, 3) := by decide +kernel
theorem dL_law_594 : decode code 594 = .ok (.iconst 0, 1) := by decide +kernel
theorem dL_law_595 : decode code 595 = .ok (.ireturn, 1) := by decide +kernel
theorem dL_law_596 : decode code 596 = .ok (.aload_n 1, 1) := by decide +kernel
theorem dL_law_597 : decode code 597 = .ok (.aload_n 0, 1) := by decide +kernel
theorem dL_law_598 : decode code 598 = .ok (.iload 4, 2) := by decide +kernel
theorem dL_law_600 : decode code 600 = .ok (.iconst 1, 1) := by decide +kernel
theorem dL_law_601 : decode code 601 = .ok (.iadd, 1) := by decide +kernel
theorem dL_law_602 : decode code 602 = .ok (.iaload, 1) := by decide +kernel
theorem dL_law_603 : decode code 603 = .ok (.aload_n 0, 1) := by decide +kernel
theorem dL_law_604 : decode code 604 = .ok (.iload 4, 2) := by decide +kernel
theorem dL_law_606 : decode code 606 = .ok (.iconst 2, 1) := by decide +kernel
theorem dL_law_607 : decode code 607 = .ok (.iadd, 1) := by decide +kernel
theorem dL_law_608 : decode code 608 = .ok (.iaload, 1) := by decide +kernel
theorem dL_law_609 : decode code 609 = .ok (.aload_n 0, 1) := by decide +kernel
theorem dL_law_610 : decode code 610 = .ok (.iload 4, 2) := by decide +kernel
theorem dL_law_612 : decode code 612 = .ok (.iconst 3, 1) := by decide +kernel
