theorem dL_refusesAny_212 : decode cL_refusesAny 212 = .ok (.iconst 0, 1) := by decide +kernel
theorem dL_refusesAny_213 : decode cL_refusesAny 213 = .ok (.ireturn, 1) := by decide +kernel
theorem dL_refusesAny_214 : decode cL_refusesAny 214 = .ok (.aload_n 0, 1) := by decide +kernel
theorem dL_refusesAny_215 : decode cL_refusesAny 215 = .ok (.iload_n 1, 1) := by decide +kernel
theorem dL_refusesAny_216 : decode cL_refusesAny 216 = .ok (.ifCond .ne 7, 3) := by decide +kernel
theorem dL_refusesAny_219 : decode cL_refusesAny 219 = .ok (.iconst (-1), 1) := by decide +kernel
theorem dL_refusesAny_220 : decode cL_refusesAny 220 = .ok (.goto 4, 3) := by decide +kernel
theorem dL_refusesAny_223 : decode cL_refusesAny 223 = .ok (.iload_n 2, 1) := by decide +kernel
theorem dL_refusesAny_224 : decode cL_refusesAny 224 = .ok (.iconst 0, 1) := by decide +kernel
theorem dL_refusesAny_225 : decode cL_refusesAny 225 = .ok (.invokevirtual 19, 3) := by decide +kernel
theorem dL_refusesAny_228 : decode cL_refusesAny 228 = .ok (.ldc 37, 2) := by decide +kernel
theorem dL_refusesAny_230 : decode cL_refusesAny 230 = .ok (.if_icmp .ne 168, 3) := by decide +kernel
theorem dL_refusesAny_233 : decode cL_refusesAny 233 = .ok (.aload_n 0, 1) := by decide +kernel
theorem dL_refusesAny_234 : decode cL_refusesAny 234 = .ok (.iconst 0, 1) := by decide +kernel
theorem dL_refusesAny_235 : decode cL_refusesAny 235 = .ok (.iload_n 1, 1) := by decide +kernel
theorem dL_refusesAny_236 : decode cL_refusesAny 236 = .ok (.ifCond .ne 7, 3) := by decide +kernel
theorem dL_refusesAny_239 : decode cL_refusesAny 239 = .ok (.iconst (-1), 1) := by decide +kernel
theorem dL_refusesAny_240 : decode cL_refusesAny 240 = .ok (.goto 5, 3) := by decide +kernel
theorem dL_refusesAny_243 : decode cL_refusesAny 243 = .ok (.bipush 6, 2) := by decide +kernel
theorem dL_refusesAny_245 : decode cL_refusesAny 245 = .ok (.invokevirtual 19, 3) := by decide +kernel
theorem dL_refusesAny_248 : decode cL_refusesAny 248 = .ok (.ldc 37, 2) := by decide +kernel
theorem dL_refusesAny_250 : decode cL_refusesAny 250 = .ok (.if_icmp .ne 148, 3) := by decide +kernel
theorem dL_refusesAny_253 : decode cL_refusesAny 253 = .ok (.aload_n 0, 1) := by decide +kernel
theorem dL_refusesAny_254 : decode cL_refusesAny 254 = .ok (.iload_n 1, 1) := by decide +kernel
theorem dL_refusesAny_255 : decode cL_refusesAny 255 = .ok (.ifCond .ne 7, 3) := by decide +kernel
theorem dL_refusesAny_258 : decode cL_refusesAny 258 = .ok (.iconst (-1), 1) := by decide +kernel
theorem dL_refusesAny_259 : decode cL_refusesAny 259 = .ok (.goto 5, 3) := by decide +kernel
theorem dL_refusesAny_262 : decode cL_refusesAny 262 = .ok (.bipush 99, 2) := by decide +kernel
theorem dL_refusesAny_264 : decode cL_refusesAny 264 = .ok (.iload_n 1, 1) := by decide +kernel
theorem dL_refusesAny_265 : decode cL_refusesAny 265 = .ok (.ifCond .ne 7, 3) := by decide +kernel
theorem dL_refusesAny_268 : decode cL_refusesAny 268 = .ok (.iconst 0, 1) := by decide +kernel
theorem dL_refusesAny_269 : decode cL_refusesAny 269 = .ok (.goto 5, 3) := by decide +kernel
theorem dL_refusesAny_272 : decode cL_refusesAny 272 = .ok (.bipush 6, 2) := by decide +kernel
theorem dL_refusesAny_274 : decode cL_refusesAny 274 = .ok (.invokevirtual 29, 3) := by decide +kernel
theorem dL_refusesAny_277 : decode cL_refusesAny 277 = .ok (.ldc 37, 2) := by decide +kernel
theorem dL_refusesAny_279 : decode cL_refusesAny 279 = .ok (.if_icmp .ne 119, 3) := by decide +kernel
theorem dL_refusesAny_282 : decode cL_refusesAny 282 = .ok (.aload_n 0, 1) := by decide +kernel
theorem dL_refusesAny_283 : decode cL_refusesAny 283 = .ok (.iconst 0, 1) := by decide +kernel
theorem dL_refusesAny_284 : decode cL_refusesAny 284 = .ok (.iconst (-1), 1) := by decide +kernel
theorem dL_refusesAny_285 : decode cL_refusesAny 285 = .ok (.invokevirtual 29, 3) := by decide +kernel
theorem dL_refusesAny_288 : decode cL_refusesAny 288 = .ok (.ldc 37, 2) := by decide +kernel
theorem dL_refusesAny_290 : decode cL_refusesAny 290 = .ok (.if_icmp .ne 108, 3) := by decide +kernel
theorem dL_refusesAny_293 : decode cL_refusesAny 293 = .ok (.aload_n 0, 1) := by decide +kernel
theorem dL_refusesAny_294 : decode cL_refusesAny 294 = .ok (.bipush 16, 2) := by decide +kernel
theorem dL_refusesAny_296 : decode cL_refusesAny 296 = .ok (.iconst 0, 1) := by decide +kernel
theorem dL_refusesAny_297 : decode cL_refusesAny 297 = .ok (.invokevirtual 29, 3) := by decide +kernel
theorem dL_refusesAny_300 : decode cL_refusesAny 300 = .ok (.ldc 52, 2) := by decide +kernel
theorem dL_refusesAny_302 : decode cL_refusesAny 302 = .ok (.if_icmp .ne 96, 3) := by decide +kernel
theorem dL_refusesAny_305 : decode cL_refusesAny 305 = .ok (.aload_n 0, 1) := by decide +kernel
theorem dL_refusesAny_306 : decode cL_refusesAny 306 = .ok (.iload_n 1, 1) := by decide +kernel
theorem dL_refusesAny_307 : decode cL_refusesAny 307 = .ok (.ifCond .ne 7, 3) := by decide +kernel
theorem dL_refusesAny_310 : decode cL_refusesAny 310 = .ok (.iconst (-1), 1) := by decide +kernel
theorem dL_refusesAny_311 : decode cL_refusesAny 311 = .ok (.goto 4, 3) := by decide +kernel
theorem dL_refusesAny_314 : decode cL_refusesAny 314 = .ok (.iconst 3, 1) := by decide +kernel
theorem dL_refusesAny_315 : decode cL_refusesAny 315 = .ok (.iconst 0, 1) := by decide +kernel
theorem dL_refusesAny_316 : decode cL_refusesAny 316 = .ok (.invokevirtual 26, 3) := by decide +kernel
theorem dL_refusesAny_319 : decode cL_refusesAny 319 = .ok (.ldc 37, 2) := by decide +kernel
theorem dL_refusesAny_321 : decode cL_refusesAny 321 = .ok (.if_icmp .ne 77, 3) := by decide +kernel
theorem dL_refusesAny_324 : decode cL_refusesAny 324 = .ok (.aload_n 0, 1) := by decide +kernel
theorem dL_refusesAny_325 : decode cL_refusesAny 325 = .ok (.iconst 0, 1) := by decide +kernel
theorem dL_refusesAny_326 : decode cL_refusesAny 326 = .ok (.iload_n 1, 1) := by decide +kernel
theorem dL_refusesAny_327 : decode cL_refusesAny 327 = .ok (.ifCond .ne 7, 3) := by decide +kernel
theorem dL_refusesAny_330 : decode cL_refusesAny 330 = .ok (.iconst (-1), 1) := by decide +kernel
theorem dL_refusesAny_331 : decode cL_refusesAny 331 = .ok (.goto 4, 3) := by decide +kernel
theorem dL_refusesAny_334 : decode cL_refusesAny 334 = .ok (.iconst 2, 1) := by decide +kernel
theorem dL_refusesAny_335 : decode cL_refusesAny 335 = .ok (.invokevirtual 26, 3) := by decide +kernel
theorem dL_refusesAny_338 : decode cL_refusesAny 338 = .ok (.ldc 37, 2) := by decide +kernel
theorem dL_refusesAny_340 : decode cL_refusesAny 340 = .ok (.if_icmp .ne 58, 3) := by decide +kernel
theorem dL_refusesAny_343 : decode cL_refusesAny 343 = .ok (.aload_n 0, 1) := by decide +kernel
theorem dL_refusesAny_344 : decode cL_refusesAny 344 = .ok (.iload_n 1, 1) := by decide +kernel
theorem dL_refusesAny_345 : decode cL_refusesAny 345 = .ok (.ifCond .ne 7, 3) := by decide +kernel
theorem dL_refusesAny_348 : decode cL_refusesAny 348 = .ok (.iconst (-1), 1) := by decide +kernel
theorem dL_refusesAny_349 : decode cL_refusesAny 349 = .ok (.goto 5, 3) := by decide +kernel
theorem dL_refusesAny_352 : decode cL_refusesAny 352 = .ok (.ldc 45, 2) := by decide +kernel
theorem dL_refusesAny_354 : decode cL_refusesAny 354 = .ok (.invokevirtual 53, 3) := by decide +kernel
theorem dL_refusesAny_357 : decode cL_refusesAny 357 = .ok (.ldc 37, 2) := by decide +kernel
theorem dL_refusesAny_359 : decode cL_refusesAny 359 = .ok (.if_icmp .ne 39, 3) := by decide +kernel
theorem dL_refusesAny_362 : decode cL_refusesAny 362 = .ok (.aload_n 0, 1) := by decide +kernel
theorem dL_refusesAny_363 : decode cL_refusesAny 363 = .ok (.iload_n 1, 1) := by decide +kernel
theorem dL_refusesAny_364 : decode cL_refusesAny 364 = .ok (.ifCond .ne 7, 3) := by decide +kernel
theorem dL_refusesAny_367 : decode cL_refusesAny 367 = .ok (.iconst (-1), 1) := by decide +kernel
theorem dL_refusesAny_368 : decode cL_refusesAny 368 = .ok (.goto 4, 3) := by decide +kernel
theorem dL_refusesAny_371 : decode cL_refusesAny 371 = .ok (.iconst 4, 1) := by decide +kernel
theorem dL_refusesAny_372 : decode cL_refusesAny 372 = .ok (.invokevirtual 56, 3) := by decide +kernel
theorem dL_refusesAny_375 : decode cL_refusesAny 375 = .ok (.ldc 37, 2) := by decide +kernel
theorem dL_refusesAny_377 : decode cL_refusesAny 377 = .ok (.if_icmp .ne 21, 3) := by decide +kernel
theorem dL_refusesAny_380 : decode cL_refusesAny 380 = .ok (.aload_n 0, 1) := by decide +kernel
theorem dL_refusesAny_381 : decode cL_refusesAny 381 = .ok (.iload_n 1, 1) := by decide +kernel
theorem dL_refusesAny_382 : decode cL_refusesAny 382 = .ok (.ifCond .ne 7, 3) := by decide +kernel
theorem dL_refusesAny_385 : decode cL_refusesAny 385 = .ok (.iconst (-1), 1) := by decide +kernel
theorem dL_refusesAny_386 : decode cL_refusesAny 386 = .ok (.goto 4, 3) := by decide +kernel
theorem dL_refusesAny_389 : decode cL_refusesAny 389 = .ok (.iconst 5, 1) := by decide +kernel
theorem dL_refusesAny_390 : decode cL_refusesAny 390 = .ok (.invokevirtual 23, 3) := by decide +kernel
theorem dL_refusesAny_393 : decode cL_refusesAny 393 = .ok (.ldc 37, 2) := by decide +kernel
theorem dL_refusesAny_395 : decode cL_refusesAny 395 = .ok (.if_icmp .eq 5, 3) := by decide +kernel
theorem dL_refusesAny_398 : decode cL_refusesAny 398 = .ok (.iconst 0, 1) := by decide +kernel
theorem dL_refusesAny_399 : decode cL_refusesAny 399 = .ok (.ireturn, 1) := by decide +kernel
theorem dL_refusesAny_400 : decode cL_refusesAny 400 = .ok (.aload_n 0, 1) := by decide +kernel
theorem dL_refusesAny_401 : decode cL_refusesAny 401 = .ok (.iload_n 1, 1) := by decide +kernel
theorem dL_refusesAny_402 : decode cL_refusesAny 402 = .ok (.ifCond .ne 7, 3) := by decide +kernel
theorem dL_refusesAny_405 : decode cL_refusesAny 405 = .ok (.iconst (-1), 1) := by decide +kernel
theorem dL_refusesAny_406 : decode cL_refusesAny 406 = .ok (.goto 6, 3) := by decide +kernel
theorem dL_refusesAny_409 : decode cL_refusesAny 409 = .ok (.sipush 10001, 3) := by decide +kernel
theorem dL_refusesAny_412 : decode cL_refusesAny 412 = .ok (.iconst 1, 1) := by decide +kernel
theorem dL_refusesAny_413 : decode cL_refusesAny 413 = .ok (.invokevirtual 59, 3) := by decide +kernel
theorem dL_refusesAny_416 : decode cL_refusesAny 416 = .ok (.ldc 37, 2) := by decide +kernel
theorem dL_refusesAny_418 : decode cL_refusesAny 418 = .ok (.if_icmp .ne 122, 3) := by decide +kernel
theorem dL_refusesAny_421 : decode cL_refusesAny 421 = .ok (.aload_n 0, 1) := by decide +kernel
theorem dL_refusesAny_422 : decode cL_refusesAny 422 = .ok (.iconst 5, 1) := by decide +kernel
theorem dL_refusesAny_423 : decode cL_refusesAny 423 = .ok (.iload_n 1, 1) := by decide +kernel
theorem dL_refusesAny_424 : decode cL_refusesAny 424 = .ok (.ifCond .ne 7, 3) := by decide +kernel
theorem dL_refusesAny_427 : decode cL_refusesAny 427 = .ok (.iconst 0, 1) := by decide +kernel
theorem dL_refusesAny_428 : decode cL_refusesAny 428 = .ok (.goto 5, 3) := by decide +kernel
theorem dL_refusesAny_431 : decode cL_refusesAny 431 = .ok (.bipush 41, 2) := by decide +kernel
theorem dL_refusesAny_433 : decode cL_refusesAny 433 = .ok (.invokevirtual 59, 3) := by decide +kernel
theorem dL_refusesAny_436 : decode cL_refusesAny 436 = .ok (.ldc 37, 2) := by decide +kernel
theorem dL_refusesAny_438 : decode cL_refusesAny 438 = .ok (.if_icmp .ne 102, 3) := by decide +kernel
theorem dL_refusesAny_441 : decode cL_refusesAny 441 = .ok (.aload_n 0, 1) := by decide +kernel
theorem dL_refusesAny_442 : decode cL_refusesAny 442 = .ok (.iload_n 1, 1) := by decide +kernel
theorem dL_refusesAny_443 : decode cL_refusesAny 443 = .ok (.ifCond .ne 7, 3) := by decide +kernel
theorem dL_refusesAny_446 : decode cL_refusesAny 446 = .ok (.iconst (-1), 1) := by decide +kernel
theorem dL_refusesAny_447 : decode cL_refusesAny 447 = .ok (.goto 4, 3) := by decide +kernel
theorem dL_refusesAny_450 : decode cL_refusesAny 450 = .ok (.iconst 2, 1) := by decide +kernel
theorem dL_refusesAny_451 : decode cL_refusesAny 451 = .ok (.invokevirtual 62, 3) := by decide +kernel
theorem dL_refusesAny_454 : decode cL_refusesAny 454 = .ok (.ldc 37, 2) := by decide +kernel
theorem dL_refusesAny_456 : decode cL_refusesAny 456 = .ok (.if_icmp .ne 84, 3) := by decide +kernel
theorem dL_refusesAny_459 : decode cL_refusesAny 459 = .ok (.aload_n 0, 1) := by decide +kernel
theorem dL_refusesAny_460 : decode cL_refusesAny 460 = .ok (.iload_n 1, 1) := by decide +kernel
theorem dL_refusesAny_461 : decode cL_refusesAny 461 = .ok (.ifCond .ne 7, 3) := by decide +kernel
theorem dL_refusesAny_464 : decode cL_refusesAny 464 = .ok (.iconst (-1), 1) := by decide +kernel
theorem dL_refusesAny_465 : decode cL_refusesAny 465 = .ok (.goto 5, 3) := by decide +kernel
theorem dL_refusesAny_468 : decode cL_refusesAny 468 = .ok (.bipush 9, 2) := by decide +kernel
theorem dL_refusesAny_470 : decode cL_refusesAny 470 = .ok (.invokevirtual 13, 3) := by decide +kernel
theorem dL_refusesAny_473 : decode cL_refusesAny 473 = .ok (.ldc 37, 2) := by decide +kernel
theorem dL_refusesAny_475 : decode cL_refusesAny 475 = .ok (.if_icmp .ne 65, 3) := by decide +kernel
theorem dL_refusesAny_478 : decode cL_refusesAny 478 = .ok (.aload_n 0, 1) := by decide +kernel
theorem dL_refusesAny_479 : decode cL_refusesAny 479 = .ok (.iload_n 1, 1) := by decide +kernel
theorem dL_refusesAny_480 : decode cL_refusesAny 480 = .ok (.ifCond .ne 8, 3) := by decide +kernel
theorem dL_refusesAny_483 : decode cL_refusesAny 483 = .ok (.bipush 19, 2) := by decide +kernel
theorem dL_refusesAny_485 : decode cL_refusesAny 485 = .ok (.goto 5, 3) := by decide +kernel
theorem dL_refusesAny_488 : decode cL_refusesAny 488 = .ok (.bipush 25, 2) := by decide +kernel
theorem dL_refusesAny_490 : decode cL_refusesAny 490 = .ok (.invokevirtual 13, 3) := by decide +kernel
theorem dL_refusesAny_493 : decode cL_refusesAny 493 = .ok (.ldc 37, 2) := by decide +kernel
theorem dL_refusesAny_495 : decode cL_refusesAny 495 = .ok (.if_icmp .ne 45, 3) := by decide +kernel
theorem dL_refusesAny_498 : decode cL_refusesAny 498 = .ok (.aload_n 0, 1) := by decide +kernel
theorem dL_refusesAny_499 : decode cL_refusesAny 499 = .ok (.iload_n 1, 1) := by decide +kernel
theorem dL_refusesAny_500 : decode cL_refusesAny 500 = .ok (.ifCond .ne 8, 3) := by decide +kernel
theorem dL_refusesAny_503 : decode cL_refusesAny 503 = .ok (.bipush 31, 2) := by decide +kernel
theorem dL_refusesAny_505 : decode cL_refusesAny 505 = .ok (.goto 5, 3) := by decide +kernel
theorem dL_refusesAny_508 : decode cL_refusesAny 508 = .ok (.bipush 127, 2) := by decide +kernel
theorem dL_refusesAny_510 : decode cL_refusesAny 510 = .ok (.invokevirtual 65, 3) := by decide +kernel
theorem dL_refusesAny_513 : decode cL_refusesAny 513 = .ok (.ldc 37, 2) := by decide +kernel
theorem dL_refusesAny_515 : decode cL_refusesAny 515 = .ok (.if_icmp .ne 25, 3) := by decide +kernel
theorem dL_refusesAny_518 : decode cL_refusesAny 518 = .ok (.aload_n 0, 1) := by decide +kernel
theorem dL_refusesAny_519 : decode cL_refusesAny 519 = .ok (.iload_n 1, 1) := by decide +kernel
theorem dL_refusesAny_520 : decode cL_refusesAny 520 = .ok (.ifCond .ne 7, 3) := by decide +kernel
theorem dL_refusesAny_523 : decode cL_refusesAny 523 = .ok (.iconst (-1), 1) := by decide +kernel
theorem dL_refusesAny_524 : decode cL_refusesAny 524 = .ok (.goto 4, 3) := by decide +kernel
theorem dL_refusesAny_527 : decode cL_refusesAny 527 = .ok (.iconst 3, 1) := by decide +kernel
theorem dL_refusesAny_528 : decode cL_refusesAny 528 = .ok (.invokevirtual 68, 3) := by decide +kernel
theorem dL_refusesAny_531 : decode cL_refusesAny 531 = .ok (.ldc 37, 2) := by decide +kernel
theorem dL_refusesAny_533 : decode cL_refusesAny 533 = .ok (.if_icmp .ne 7, 3) := by decide +kernel
theorem dL_refusesAny_536 : decode cL_refusesAny 536 = .ok (.iconst 1, 1) := by decide +kernel
theorem dL_refusesAny_537 : decode cL_refusesAny 537 = .ok (.goto 4, 3) := by decide +kernel
theorem dL_refusesAny_540 : decode cL_refusesAny 540 = .ok (.iconst 0, 1) := by decide +kernel
theorem dL_refusesAny_541 : decode cL_refusesAny 541 = .ok (.ireturn, 1) := by decide +kernel
