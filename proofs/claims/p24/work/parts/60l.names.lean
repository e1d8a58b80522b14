theorem dL_texts_262 : decode cL_texts 262 = .ok (.ifCond .eq 16, 3) := by decide +kernel
theorem dL_texts_265 : decode cL_texts 265 = .ok (.ldc2_w 161, 3) := by decide +kernel
theorem dL_texts_268 : decode cL_texts 268 = .ok (.lconst 0, 1) := by decide +kernel
theorem dL_texts_269 : decode cL_texts 269 = .ok (.iconst 3, 1) := by decide +kernel
theorem dL_texts_270 : decode cL_texts 270 = .ok (.iconst 1, 1) := by decide +kernel
theorem dL_texts_271 : decode cL_texts 271 = .ok (.iconst 0, 1) := by decide +kernel
theorem dL_texts_272 : decode cL_texts 272 = .ok (.invokestatic 117, 3) := by decide +kernel
theorem dL_texts_275 : decode cL_texts 275 = .ok (.ifCond .ne 5, 3) := by decide +kernel
theorem dL_texts_278 : decode cL_texts 278 = .ok (.iconst 0, 1) := by decide +kernel
theorem dL_texts_279 : decode cL_texts 279 = .ok (.ireturn, 1) := by decide +kernel
theorem dL_texts_280 : decode cL_texts 280 = .ok (.new 14, 3) := by decide +kernel
theorem dL_texts_283 : decode cL_texts 283 = .ok (.dup, 1) := by decide +kernel
theorem dL_texts_284 : decode cL_texts 284 = .ok (.invokespecial 79, 3) := by decide +kernel
theorem dL_texts_287 : decode cL_texts 287 = .ok (.astore_n 0, 1) := by decide +kernel
theorem dL_texts_288 : decode cL_texts 288 = .ok (.aload_n 0, 1) := by decide +kernel
theorem dL_texts_289 : decode cL_texts 289 = .ok (.ldc2_w 163, 3) := by decide +kernel
theorem dL_texts_292 : decode cL_texts 292 = .ok (.invokestatic 110, 3) := by decide +kernel
theorem dL_texts_295 : decode cL_texts 295 = .ok (.ifCond .eq 146, 3) := by decide +kernel
theorem dL_texts_298 : decode cL_texts 298 = .ok (.aload_n 0, 1) := by decide +kernel
theorem dL_texts_299 : decode cL_texts 299 = .ok (.ldc2_w 165, 3) := by decide +kernel
theorem dL_texts_302 : decode cL_texts 302 = .ok (.invokestatic 110, 3) := by decide +kernel
theorem dL_texts_305 : decode cL_texts 305 = .ok (.ifCond .eq 136, 3) := by decide +kernel
theorem dL_texts_308 : decode cL_texts 308 = .ok (.aload_n 0, 1) := by decide +kernel
theorem dL_texts_309 : decode cL_texts 309 = .ok (.ldc2_w 167, 3) := by decide +kernel
theorem dL_texts_312 : decode cL_texts 312 = .ok (.invokestatic 110, 3) := by decide +kernel
theorem dL_texts_315 : decode cL_texts 315 = .ok (.ifCond .eq 126, 3) := by decide +kernel
theorem dL_texts_318 : decode cL_texts 318 = .ok (.aload_n 0, 1) := by decide +kernel
theorem dL_texts_319 : decode cL_texts 319 = .ok (.invokevirtual 114, 3) := by decide +kernel
theorem dL_texts_322 : decode cL_texts 322 = .ok (.iconst 4, 1) := by decide +kernel
theorem dL_texts_323 : decode cL_texts 323 = .ok (.if_icmp .ne 118, 3) := by decide +kernel
theorem dL_texts_326 : decode cL_texts 326 = .ok (.aload_n 0, 1) := by decide +kernel
theorem dL_texts_327 : decode cL_texts 327 = .ok (.bipush 7, 2) := by decide +kernel
theorem dL_texts_329 : decode cL_texts 329 = .ok (.invokevirtual 13, 3) := by decide +kernel
theorem dL_texts_332 : decode cL_texts 332 = .ok (.iconst 1, 1) := by decide +kernel
theorem dL_texts_333 : decode cL_texts 333 = .ok (.if_icmp .ne 108, 3) := by decide +kernel
theorem dL_texts_336 : decode cL_texts 336 = .ok (.aload_n 0, 1) := by decide +kernel
theorem dL_texts_337 : decode cL_texts 337 = .ok (.bipush 8, 2) := by decide +kernel
theorem dL_texts_339 : decode cL_texts 339 = .ok (.invokevirtual 13, 3) := by decide +kernel
theorem dL_texts_342 : decode cL_texts 342 = .ok (.bipush 21, 2) := by decide +kernel
theorem dL_texts_344 : decode cL_texts 344 = .ok (.if_icmp .ne 97, 3) := by decide +kernel
theorem dL_texts_347 : decode cL_texts 347 = .ok (.aload_n 0, 1) := by decide +kernel
theorem dL_texts_348 : decode cL_texts 348 = .ok (.iconst 1, 1) := by decide +kernel
theorem dL_texts_349 : decode cL_texts 349 = .ok (.invokevirtual 13, 3) := by decide +kernel
theorem dL_texts_352 : decode cL_texts 352 = .ok (.iconst 3, 1) := by decide +kernel
theorem dL_texts_353 : decode cL_texts 353 = .ok (.if_icmp .ne 88, 3) := by decide +kernel
theorem dL_texts_356 : decode cL_texts 356 = .ok (.aload_n 0, 1) := by decide +kernel
theorem dL_texts_357 : decode cL_texts 357 = .ok (.iconst 1, 1) := by decide +kernel
theorem dL_texts_358 : decode cL_texts 358 = .ok (.iconst 0, 1) := by decide +kernel
theorem dL_texts_359 : decode cL_texts 359 = .ok (.invokevirtual 19, 3) := by decide +kernel
theorem dL_texts_362 : decode cL_texts 362 = .ok (.sipush 200, 3) := by decide +kernel
theorem dL_texts_365 : decode cL_texts 365 = .ok (.if_icmp .ne 76, 3) := by decide +kernel
theorem dL_texts_368 : decode cL_texts 368 = .ok (.aload_n 0, 1) := by decide +kernel
theorem dL_texts_369 : decode cL_texts 369 = .ok (.iconst 2, 1) := by decide +kernel
theorem dL_texts_370 : decode cL_texts 370 = .ok (.iconst 0, 1) := by decide +kernel
theorem dL_texts_371 : decode cL_texts 371 = .ok (.invokevirtual 19, 3) := by decide +kernel
theorem dL_texts_374 : decode cL_texts 374 = .ok (.sipush 800, 3) := by decide +kernel
theorem dL_texts_377 : decode cL_texts 377 = .ok (.if_icmp .ne 64, 3) := by decide +kernel
theorem dL_texts_380 : decode cL_texts 380 = .ok (.aload_n 0, 1) := by decide +kernel
theorem dL_texts_381 : decode cL_texts 381 = .ok (.invokevirtual 114, 3) := by decide +kernel
theorem dL_texts_384 : decode cL_texts 384 = .ok (.iconst 4, 1) := by decide +kernel
theorem dL_texts_385 : decode cL_texts 385 = .ok (.if_icmp .ne 56, 3) := by decide +kernel
theorem dL_texts_388 : decode cL_texts 388 = .ok (.aload_n 0, 1) := by decide +kernel
theorem dL_texts_389 : decode cL_texts 389 = .ok (.iconst 1, 1) := by decide +kernel
theorem dL_texts_390 : decode cL_texts 390 = .ok (.invokevirtual 13, 3) := by decide +kernel
theorem dL_texts_393 : decode cL_texts 393 = .ok (.bipush 6, 2) := by decide +kernel
theorem dL_texts_395 : decode cL_texts 395 = .ok (.if_icmp .ne 46, 3) := by decide +kernel
theorem dL_texts_398 : decode cL_texts 398 = .ok (.aload_n 0, 1) := by decide +kernel
theorem dL_texts_399 : decode cL_texts 399 = .ok (.invokevirtual 80, 3) := by decide +kernel
theorem dL_texts_402 : decode cL_texts 402 = .ok (.iconst 1, 1) := by decide +kernel
theorem dL_texts_403 : decode cL_texts 403 = .ok (.if_icmp .ne 38, 3) := by decide +kernel
theorem dL_texts_406 : decode cL_texts 406 = .ok (.aload_n 0, 1) := by decide +kernel
theorem dL_texts_407 : decode cL_texts 407 = .ok (.iconst 1, 1) := by decide +kernel
theorem dL_texts_408 : decode cL_texts 408 = .ok (.invokevirtual 13, 3) := by decide +kernel
theorem dL_texts_411 : decode cL_texts 411 = .ok (.iconst 3, 1) := by decide +kernel
theorem dL_texts_412 : decode cL_texts 412 = .ok (.if_icmp .ne 29, 3) := by decide +kernel
theorem dL_texts_415 : decode cL_texts 415 = .ok (.aload_n 0, 1) := by decide +kernel
theorem dL_texts_416 : decode cL_texts 416 = .ok (.invokevirtual 169, 3) := by decide +kernel
theorem dL_texts_419 : decode cL_texts 419 = .ok (.bipush 21, 2) := by decide +kernel
theorem dL_texts_421 : decode cL_texts 421 = .ok (.if_icmp .ne 20, 3) := by decide +kernel
theorem dL_texts_424 : decode cL_texts 424 = .ok (.aload_n 0, 1) := by decide +kernel
theorem dL_texts_425 : decode cL_texts 425 = .ok (.invokevirtual 114, 3) := by decide +kernel
theorem dL_texts_428 : decode cL_texts 428 = .ok (.ifCond .ne 13, 3) := by decide +kernel
theorem dL_texts_431 : decode cL_texts 431 = .ok (.aload_n 0, 1) := by decide +kernel
theorem dL_texts_432 : decode cL_texts 432 = .ok (.bipush 7, 2) := by decide +kernel
theorem dL_texts_434 : decode cL_texts 434 = .ok (.invokevirtual 13, 3) := by decide +kernel
theorem dL_texts_437 : decode cL_texts 437 = .ok (.iconst 2, 1) := by decide +kernel
theorem dL_texts_438 : decode cL_texts 438 = .ok (.if_icmp .eq 5, 3) := by decide +kernel
theorem dL_texts_441 : decode cL_texts 441 = .ok (.iconst 0, 1) := by decide +kernel
theorem dL_texts_442 : decode cL_texts 442 = .ok (.ireturn, 1) := by decide +kernel
theorem dL_texts_443 : decode cL_texts 443 = .ok (.iconst 0, 1) := by decide +kernel
theorem dL_texts_444 : decode cL_texts 444 = .ok (.istore_n 1, 1) := by decide +kernel
theorem dL_texts_445 : decode cL_texts 445 = .ok (.iload_n 1, 1) := by decide +kernel
theorem dL_texts_446 : decode cL_texts 446 = .ok (.bipush 60, 2) := by decide +kernel
theorem dL_texts_448 : decode cL_texts 448 = .ok (.if_icmp .ge 34, 3) := by decide +kernel
theorem dL_texts_451 : decode cL_texts 451 = .ok (.aload_n 0, 1) := by decide +kernel
theorem dL_texts_452 : decode cL_texts 452 = .ok (.iload_n 1, 1) := by decide +kernel
theorem dL_texts_453 : decode cL_texts 453 = .ok (.iconst 2, 1) := by decide +kernel
theorem dL_texts_454 : decode cL_texts 454 = .ok (.irem, 1) := by decide +kernel
theorem dL_texts_455 : decode cL_texts 455 = .ok (.ifCond .ne 8, 3) := by decide +kernel
theorem dL_texts_458 : decode cL_texts 458 = .ok (.bipush 115, 2) := by decide +kernel
theorem dL_texts_460 : decode cL_texts 460 = .ok (.goto 5, 3) := by decide +kernel
theorem dL_texts_463 : decode cL_texts 463 = .ok (.bipush 59, 2) := by decide +kernel
theorem dL_texts_465 : decode cL_texts 465 = .ok (.invokevirtual 65, 3) := by decide +kernel
theorem dL_texts_468 : decode cL_texts 468 = .ok (.iload_n 1, 1) := by decide +kernel
theorem dL_texts_469 : decode cL_texts 469 = .ok (.iconst 1, 1) := by decide +kernel
theorem dL_texts_470 : decode cL_texts 470 = .ok (.iadd, 1) := by decide +kernel
theorem dL_texts_471 : decode cL_texts 471 = .ok (.if_icmp .eq 5, 3) := by decide +kernel
theorem dL_texts_474 : decode cL_texts 474 = .ok (.iconst 0, 1) := by decide +kernel
theorem dL_texts_475 : decode cL_texts 475 = .ok (.ireturn, 1) := by decide +kernel
theorem dL_texts_476 : decode cL_texts 476 = .ok (.iinc 1 1, 3) := by decide +kernel
theorem dL_texts_479 : decode cL_texts 479 = .ok (.goto (-34), 3) := by decide +kernel
theorem dL_texts_482 : decode cL_texts 482 = .ok (.aload_n 0, 1) := by decide +kernel
theorem dL_texts_483 : decode cL_texts 483 = .ok (.bipush 59, 2) := by decide +kernel
theorem dL_texts_485 : decode cL_texts 485 = .ok (.invokevirtual 65, 3) := by decide +kernel
theorem dL_texts_488 : decode cL_texts 488 = .ok (.ldc 103, 2) := by decide +kernel
theorem dL_texts_490 : decode cL_texts 490 = .ok (.if_icmp .ne 27, 3) := by decide +kernel
theorem dL_texts_493 : decode cL_texts 493 = .ok (.aload_n 0, 1) := by decide +kernel
theorem dL_texts_494 : decode cL_texts 494 = .ok (.bipush 31, 2) := by decide +kernel
theorem dL_texts_496 : decode cL_texts 496 = .ok (.invokevirtual 65, 3) := by decide +kernel
theorem dL_texts_499 : decode cL_texts 499 = .ok (.ldc 37, 2) := by decide +kernel
theorem dL_texts_501 : decode cL_texts 501 = .ok (.if_icmp .ne 16, 3) := by decide +kernel
theorem dL_texts_504 : decode cL_texts 504 = .ok (.aload_n 0, 1) := by decide +kernel
theorem dL_texts_505 : decode cL_texts 505 = .ok (.invokevirtual 169, 3) := by decide +kernel
theorem dL_texts_508 : decode cL_texts 508 = .ok (.bipush 60, 2) := by decide +kernel
theorem dL_texts_510 : decode cL_texts 510 = .ok (.if_icmp .ne 7, 3) := by decide +kernel
theorem dL_texts_513 : decode cL_texts 513 = .ok (.iconst 1, 1) := by decide +kernel
theorem dL_texts_514 : decode cL_texts 514 = .ok (.goto 4, 3) := by decide +kernel
theorem dL_texts_517 : decode cL_texts 517 = .ok (.iconst 0, 1) := by decide +kernel
theorem dL_texts_518 : decode cL_texts 518 = .ok (.ireturn, 1) := by decide +kernel
