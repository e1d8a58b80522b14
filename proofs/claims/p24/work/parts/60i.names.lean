theorem dL_references_253 : decode cL_references 253 = .ok (.ifCond .ne 70, 3) := by decide +kernel
theorem dL_references_256 : decode cL_references 256 = .ok (.aload_n 0, 1) := by decide +kernel
theorem dL_references_257 : decode cL_references 257 = .ok (.iconst 1, 1) := by decide +kernel
theorem dL_references_258 : decode cL_references 258 = .ok (.invokevirtual 46, 3) := by decide +kernel
theorem dL_references_261 : decode cL_references 261 = .ok (.iconst 1, 1) := by decide +kernel
theorem dL_references_262 : decode cL_references 262 = .ok (.if_icmp .ne 61, 3) := by decide +kernel
theorem dL_references_265 : decode cL_references 265 = .ok (.aload_n 0, 1) := by decide +kernel
theorem dL_references_266 : decode cL_references 266 = .ok (.iconst 1, 1) := by decide +kernel
theorem dL_references_267 : decode cL_references 267 = .ok (.iconst 0, 1) := by decide +kernel
theorem dL_references_268 : decode cL_references 268 = .ok (.invokevirtual 26, 3) := by decide +kernel
theorem dL_references_271 : decode cL_references 271 = .ok (.sipush 4000, 3) := by decide +kernel
theorem dL_references_274 : decode cL_references 274 = .ok (.if_icmp .ne 49, 3) := by decide +kernel
theorem dL_references_277 : decode cL_references 277 = .ok (.aload_n 0, 1) := by decide +kernel
theorem dL_references_278 : decode cL_references 278 = .ok (.iconst 4, 1) := by decide +kernel
theorem dL_references_279 : decode cL_references 279 = .ok (.invokevirtual 13, 3) := by decide +kernel
theorem dL_references_282 : decode cL_references 282 = .ok (.iconst 2, 1) := by decide +kernel
theorem dL_references_283 : decode cL_references 283 = .ok (.if_icmp .ne 40, 3) := by decide +kernel
theorem dL_references_286 : decode cL_references 286 = .ok (.aload_n 0, 1) := by decide +kernel
theorem dL_references_287 : decode cL_references 287 = .ok (.sipush 2500, 3) := by decide +kernel
theorem dL_references_290 : decode cL_references 290 = .ok (.invokevirtual 53, 3) := by decide +kernel
theorem dL_references_293 : decode cL_references 293 = .ok (.sipush 2500, 3) := by decide +kernel
theorem dL_references_296 : decode cL_references 296 = .ok (.if_icmp .ne 27, 3) := by decide +kernel
theorem dL_references_299 : decode cL_references 299 = .ok (.aload_n 0, 1) := by decide +kernel
theorem dL_references_300 : decode cL_references 300 = .ok (.sipush 5000, 3) := by decide +kernel
theorem dL_references_303 : decode cL_references 303 = .ok (.invokevirtual 53, 3) := by decide +kernel
theorem dL_references_306 : decode cL_references 306 = .ok (.sipush 5000, 3) := by decide +kernel
theorem dL_references_309 : decode cL_references 309 = .ok (.if_icmp .ne 14, 3) := by decide +kernel
theorem dL_references_312 : decode cL_references 312 = .ok (.aload_n 0, 1) := by decide +kernel
theorem dL_references_313 : decode cL_references 313 = .ok (.bipush 7, 2) := by decide +kernel
theorem dL_references_315 : decode cL_references 315 = .ok (.invokevirtual 53, 3) := by decide +kernel
theorem dL_references_318 : decode cL_references 318 = .ok (.bipush 7, 2) := by decide +kernel
theorem dL_references_320 : decode cL_references 320 = .ok (.if_icmp .eq 5, 3) := by decide +kernel
theorem dL_references_323 : decode cL_references 323 = .ok (.iconst 0, 1) := by decide +kernel
theorem dL_references_324 : decode cL_references 324 = .ok (.ireturn, 1) := by decide +kernel
theorem dL_references_325 : decode cL_references 325 = .ok (.new 14, 3) := by decide +kernel
theorem dL_references_328 : decode cL_references 328 = .ok (.dup, 1) := by decide +kernel
theorem dL_references_329 : decode cL_references 329 = .ok (.invokespecial 79, 3) := by decide +kernel
theorem dL_references_332 : decode cL_references 332 = .ok (.astore_n 1, 1) := by decide +kernel
theorem dL_references_333 : decode cL_references 333 = .ok (.aload_n 1, 1) := by decide +kernel
theorem dL_references_334 : decode cL_references 334 = .ok (.iconst 2, 1) := by decide +kernel
theorem dL_references_335 : decode cL_references 335 = .ok (.invokevirtual 32, 3) := by decide +kernel
theorem dL_references_338 : decode cL_references 338 = .ok (.ifCond .ne 105, 3) := by decide +kernel
theorem dL_references_341 : decode cL_references 341 = .ok (.aload_n 1, 1) := by decide +kernel
theorem dL_references_342 : decode cL_references 342 = .ok (.iconst 0, 1) := by decide +kernel
theorem dL_references_343 : decode cL_references 343 = .ok (.bipush 100, 2) := by decide +kernel
theorem dL_references_345 : decode cL_references 345 = .ok (.iconst 0, 1) := by decide +kernel
theorem dL_references_346 : decode cL_references 346 = .ok (.invokevirtual 38, 3) := by decide +kernel
theorem dL_references_349 : decode cL_references 349 = .ok (.ifCond .ne 94, 3) := by decide +kernel
theorem dL_references_352 : decode cL_references 352 = .ok (.aload_n 1, 1) := by decide +kernel
theorem dL_references_353 : decode cL_references 353 = .ok (.iconst 1, 1) := by decide +kernel
theorem dL_references_354 : decode cL_references 354 = .ok (.iconst 3, 1) := by decide +kernel
theorem dL_references_355 : decode cL_references 355 = .ok (.invokevirtual 42, 3) := by decide +kernel
theorem dL_references_358 : decode cL_references 358 = .ok (.ifCond .ne 85, 3) := by decide +kernel
theorem dL_references_361 : decode cL_references 361 = .ok (.aload_n 1, 1) := by decide +kernel
theorem dL_references_362 : decode cL_references 362 = .ok (.iconst 0, 1) := by decide +kernel
theorem dL_references_363 : decode cL_references 363 = .ok (.invokevirtual 46, 3) := by decide +kernel
theorem dL_references_366 : decode cL_references 366 = .ok (.iconst 2, 1) := by decide +kernel
theorem dL_references_367 : decode cL_references 367 = .ok (.if_icmp .ne 76, 3) := by decide +kernel
theorem dL_references_370 : decode cL_references 370 = .ok (.aload_n 1, 1) := by decide +kernel
theorem dL_references_371 : decode cL_references 371 = .ok (.iconst 0, 1) := by decide +kernel
theorem dL_references_372 : decode cL_references 372 = .ok (.invokevirtual 46, 3) := by decide +kernel
theorem dL_references_375 : decode cL_references 375 = .ok (.iconst 1, 1) := by decide +kernel
theorem dL_references_376 : decode cL_references 376 = .ok (.if_icmp .ne 67, 3) := by decide +kernel
theorem dL_references_379 : decode cL_references 379 = .ok (.aload_n 1, 1) := by decide +kernel
theorem dL_references_380 : decode cL_references 380 = .ok (.iconst 0, 1) := by decide +kernel
theorem dL_references_381 : decode cL_references 381 = .ok (.iconst 0, 1) := by decide +kernel
theorem dL_references_382 : decode cL_references 382 = .ok (.invokevirtual 26, 3) := by decide +kernel
theorem dL_references_385 : decode cL_references 385 = .ok (.sipush 900, 3) := by decide +kernel
theorem dL_references_388 : decode cL_references 388 = .ok (.if_icmp .ne 55, 3) := by decide +kernel
theorem dL_references_391 : decode cL_references 391 = .ok (.aload_n 1, 1) := by decide +kernel
theorem dL_references_392 : decode cL_references 392 = .ok (.sipush 450, 3) := by decide +kernel
theorem dL_references_395 : decode cL_references 395 = .ok (.invokevirtual 53, 3) := by decide +kernel
theorem dL_references_398 : decode cL_references 398 = .ok (.sipush 500, 3) := by decide +kernel
theorem dL_references_401 : decode cL_references 401 = .ok (.if_icmp .ne 42, 3) := by decide +kernel
theorem dL_references_404 : decode cL_references 404 = .ok (.aload_n 1, 1) := by decide +kernel
theorem dL_references_405 : decode cL_references 405 = .ok (.iconst 1, 1) := by decide +kernel
theorem dL_references_406 : decode cL_references 406 = .ok (.invokevirtual 53, 3) := by decide +kernel
theorem dL_references_409 : decode cL_references 409 = .ok (.iconst 1, 1) := by decide +kernel
theorem dL_references_410 : decode cL_references 410 = .ok (.if_icmp .ne 33, 3) := by decide +kernel
theorem dL_references_413 : decode cL_references 413 = .ok (.aload_n 1, 1) := by decide +kernel
theorem dL_references_414 : decode cL_references 414 = .ok (.ldc 102, 2) := by decide +kernel
theorem dL_references_416 : decode cL_references 416 = .ok (.invokevirtual 53, 3) := by decide +kernel
theorem dL_references_419 : decode cL_references 419 = .ok (.ldc 104, 2) := by decide +kernel
theorem dL_references_421 : decode cL_references 421 = .ok (.if_icmp .ne 22, 3) := by decide +kernel
theorem dL_references_424 : decode cL_references 424 = .ok (.aload_n 1, 1) := by decide +kernel
theorem dL_references_425 : decode cL_references 425 = .ok (.iconst 0, 1) := by decide +kernel
theorem dL_references_426 : decode cL_references 426 = .ok (.iconst 2, 1) := by decide +kernel
theorem dL_references_427 : decode cL_references 427 = .ok (.sipush 1000, 3) := by decide +kernel
theorem dL_references_430 : decode cL_references 430 = .ok (.sipush 900, 3) := by decide +kernel
theorem dL_references_433 : decode cL_references 433 = .ok (.sipush 1000, 3) := by decide +kernel
theorem dL_references_436 : decode cL_references 436 = .ok (.iconst 1, 1) := by decide +kernel
theorem dL_references_437 : decode cL_references 437 = .ok (.invokestatic 91, 3) := by decide +kernel
theorem dL_references_440 : decode cL_references 440 = .ok (.ifCond .ne 5, 3) := by decide +kernel
theorem dL_references_443 : decode cL_references 443 = .ok (.iconst 0, 1) := by decide +kernel
theorem dL_references_444 : decode cL_references 444 = .ok (.ireturn, 1) := by decide +kernel
theorem dL_references_445 : decode cL_references 445 = .ok (.new 14, 3) := by decide +kernel
theorem dL_references_448 : decode cL_references 448 = .ok (.dup, 1) := by decide +kernel
theorem dL_references_449 : decode cL_references 449 = .ok (.invokespecial 79, 3) := by decide +kernel
theorem dL_references_452 : decode cL_references 452 = .ok (.astore_n 2, 1) := by decide +kernel
theorem dL_references_453 : decode cL_references 453 = .ok (.aload_n 2, 1) := by decide +kernel
theorem dL_references_454 : decode cL_references 454 = .ok (.iconst 2, 1) := by decide +kernel
theorem dL_references_455 : decode cL_references 455 = .ok (.invokevirtual 32, 3) := by decide +kernel
theorem dL_references_458 : decode cL_references 458 = .ok (.ifCond .ne 74, 3) := by decide +kernel
theorem dL_references_461 : decode cL_references 461 = .ok (.aload_n 2, 1) := by decide +kernel
theorem dL_references_462 : decode cL_references 462 = .ok (.iconst 2, 1) := by decide +kernel
theorem dL_references_463 : decode cL_references 463 = .ok (.iconst 1, 1) := by decide +kernel
theorem dL_references_464 : decode cL_references 464 = .ok (.invokevirtual 42, 3) := by decide +kernel
theorem dL_references_467 : decode cL_references 467 = .ok (.sipush 1000, 3) := by decide +kernel
theorem dL_references_470 : decode cL_references 470 = .ok (.if_icmp .ne 62, 3) := by decide +kernel
theorem dL_references_473 : decode cL_references 473 = .ok (.aload_n 2, 1) := by decide +kernel
theorem dL_references_474 : decode cL_references 474 = .ok (.iconst 1, 1) := by decide +kernel
theorem dL_references_475 : decode cL_references 475 = .ok (.bipush 12, 2) := by decide +kernel
theorem dL_references_477 : decode cL_references 477 = .ok (.invokevirtual 42, 3) := by decide +kernel
theorem dL_references_480 : decode cL_references 480 = .ok (.ifCond .ne 52, 3) := by decide +kernel
theorem dL_references_483 : decode cL_references 483 = .ok (.aload_n 2, 1) := by decide +kernel
theorem dL_references_484 : decode cL_references 484 = .ok (.iconst 3, 1) := by decide +kernel
theorem dL_references_485 : decode cL_references 485 = .ok (.invokevirtual 46, 3) := by decide +kernel
theorem dL_references_488 : decode cL_references 488 = .ok (.iconst 2, 1) := by decide +kernel
theorem dL_references_489 : decode cL_references 489 = .ok (.if_icmp .ne 43, 3) := by decide +kernel
theorem dL_references_492 : decode cL_references 492 = .ok (.aload_n 2, 1) := by decide +kernel
theorem dL_references_493 : decode cL_references 493 = .ok (.iconst 0, 1) := by decide +kernel
theorem dL_references_494 : decode cL_references 494 = .ok (.invokevirtual 46, 3) := by decide +kernel
theorem dL_references_497 : decode cL_references 497 = .ok (.iconst 1, 1) := by decide +kernel
theorem dL_references_498 : decode cL_references 498 = .ok (.if_icmp .ne 34, 3) := by decide +kernel
theorem dL_references_501 : decode cL_references 501 = .ok (.aload_n 2, 1) := by decide +kernel
theorem dL_references_502 : decode cL_references 502 = .ok (.iconst 0, 1) := by decide +kernel
theorem dL_references_503 : decode cL_references 503 = .ok (.iconst 0, 1) := by decide +kernel
theorem dL_references_504 : decode cL_references 504 = .ok (.invokevirtual 26, 3) := by decide +kernel
theorem dL_references_507 : decode cL_references 507 = .ok (.iconst 1, 1) := by decide +kernel
theorem dL_references_508 : decode cL_references 508 = .ok (.if_icmp .ne 24, 3) := by decide +kernel
theorem dL_references_511 : decode cL_references 511 = .ok (.aload_n 2, 1) := by decide +kernel
theorem dL_references_512 : decode cL_references 512 = .ok (.iconst 0, 1) := by decide +kernel
theorem dL_references_513 : decode cL_references 513 = .ok (.iconst 1, 1) := by decide +kernel
theorem dL_references_514 : decode cL_references 514 = .ok (.invokevirtual 26, 3) := by decide +kernel
theorem dL_references_517 : decode cL_references 517 = .ok (.iconst 1, 1) := by decide +kernel
theorem dL_references_518 : decode cL_references 518 = .ok (.if_icmp .ne 14, 3) := by decide +kernel
theorem dL_references_521 : decode cL_references 521 = .ok (.aload_n 2, 1) := by decide +kernel
theorem dL_references_522 : decode cL_references 522 = .ok (.bipush 77, 2) := by decide +kernel
theorem dL_references_524 : decode cL_references 524 = .ok (.invokevirtual 53, 3) := by decide +kernel
theorem dL_references_527 : decode cL_references 527 = .ok (.bipush 77, 2) := by decide +kernel
theorem dL_references_529 : decode cL_references 529 = .ok (.if_icmp .eq 5, 3) := by decide +kernel
theorem dL_references_532 : decode cL_references 532 = .ok (.iconst 0, 1) := by decide +kernel
theorem dL_references_533 : decode cL_references 533 = .ok (.ireturn, 1) := by decide +kernel
theorem dL_references_534 : decode cL_references 534 = .ok (.new 14, 3) := by decide +kernel
theorem dL_references_537 : decode cL_references 537 = .ok (.dup, 1) := by decide +kernel
theorem dL_references_538 : decode cL_references 538 = .ok (.invokespecial 79, 3) := by decide +kernel
theorem dL_references_541 : decode cL_references 541 = .ok (.astore_n 3, 1) := by decide +kernel
theorem dL_references_542 : decode cL_references 542 = .ok (.aload_n 3, 1) := by decide +kernel
theorem dL_references_543 : decode cL_references 543 = .ok (.iconst 2, 1) := by decide +kernel
theorem dL_references_544 : decode cL_references 544 = .ok (.invokevirtual 32, 3) := by decide +kernel
theorem dL_references_547 : decode cL_references 547 = .ok (.ifCond .ne 136, 3) := by decide +kernel
theorem dL_references_550 : decode cL_references 550 = .ok (.aload_n 3, 1) := by decide +kernel
theorem dL_references_551 : decode cL_references 551 = .ok (.iconst 0, 1) := by decide +kernel
theorem dL_references_552 : decode cL_references 552 = .ok (.sipush 1000, 3) := by decide +kernel
theorem dL_references_555 : decode cL_references 555 = .ok (.invokevirtual 42, 3) := by decide +kernel
theorem dL_references_558 : decode cL_references 558 = .ok (.sipush 20000, 3) := by decide +kernel
theorem dL_references_561 : decode cL_references 561 = .ok (.if_icmp .ne 122, 3) := by decide +kernel
theorem dL_references_564 : decode cL_references 564 = .ok (.aload_n 3, 1) := by decide +kernel
theorem dL_references_565 : decode cL_references 565 = .ok (.iconst 2, 1) := by decide +kernel
theorem dL_references_566 : decode cL_references 566 = .ok (.sipush 10000, 3) := by decide +kernel
theorem dL_references_569 : decode cL_references 569 = .ok (.invokevirtual 42, 3) := by decide +kernel
theorem dL_references_572 : decode cL_references 572 = .ok (.sipush 1000, 3) := by decide +kernel
theorem dL_references_575 : decode cL_references 575 = .ok (.if_icmp .ne 108, 3) := by decide +kernel
theorem dL_references_578 : decode cL_references 578 = .ok (.aload_n 3, 1) := by decide +kernel
theorem dL_references_579 : decode cL_references 579 = .ok (.iconst 0, 1) := by decide +kernel
theorem dL_references_580 : decode cL_references 580 = .ok (.iconst 0, 1) := by decide +kernel
theorem dL_references_581 : decode cL_references 581 = .ok (.sipush 300, 3) := by decide +kernel
theorem dL_references_584 : decode cL_references 584 = .ok (.invokevirtual 38, 3) := by decide +kernel
theorem dL_references_587 : decode cL_references 587 = .ok (.ifCond .ne 96, 3) := by decide +kernel
theorem dL_references_590 : decode cL_references 590 = .ok (.aload_n 3, 1) := by decide +kernel
