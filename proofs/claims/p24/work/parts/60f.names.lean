theorem dL_lines_203 : decode cL_lines 203 = .ok (.aload_n 0, 1) := by decide +kernel
theorem dL_lines_204 : decode cL_lines 204 = .ok (.iconst 0, 1) := by decide +kernel
theorem dL_lines_205 : decode cL_lines 205 = .ok (.iconst 1, 1) := by decide +kernel
theorem dL_lines_206 : decode cL_lines 206 = .ok (.invokevirtual 19, 3) := by decide +kernel
theorem dL_lines_209 : decode cL_lines 209 = .ok (.bipush 100, 2) := by decide +kernel
theorem dL_lines_211 : decode cL_lines 211 = .ok (.if_icmp .ne 111, 3) := by decide +kernel
theorem dL_lines_214 : decode cL_lines 214 = .ok (.aload_n 0, 1) := by decide +kernel
theorem dL_lines_215 : decode cL_lines 215 = .ok (.iconst 0, 1) := by decide +kernel
theorem dL_lines_216 : decode cL_lines 216 = .ok (.invokevirtual 23, 3) := by decide +kernel
theorem dL_lines_219 : decode cL_lines 219 = .ok (.ifCond .ne 103, 3) := by decide +kernel
theorem dL_lines_222 : decode cL_lines 222 = .ok (.aload_n 0, 1) := by decide +kernel
theorem dL_lines_223 : decode cL_lines 223 = .ok (.sipush 1000, 3) := by decide +kernel
theorem dL_lines_226 : decode cL_lines 226 = .ok (.invokevirtual 46, 3) := by decide +kernel
theorem dL_lines_229 : decode cL_lines 229 = .ok (.iconst 1, 1) := by decide +kernel
theorem dL_lines_230 : decode cL_lines 230 = .ok (.if_icmp .ne 92, 3) := by decide +kernel
theorem dL_lines_233 : decode cL_lines 233 = .ok (.aload_n 0, 1) := by decide +kernel
theorem dL_lines_234 : decode cL_lines 234 = .ok (.iconst 1, 1) := by decide +kernel
theorem dL_lines_235 : decode cL_lines 235 = .ok (.invokevirtual 49, 3) := by decide +kernel
theorem dL_lines_238 : decode cL_lines 238 = .ok (.iconst 1, 1) := by decide +kernel
theorem dL_lines_239 : decode cL_lines 239 = .ok (.if_icmp .ne 83, 3) := by decide +kernel
theorem dL_lines_242 : decode cL_lines 242 = .ok (.aload_n 0, 1) := by decide +kernel
theorem dL_lines_243 : decode cL_lines 243 = .ok (.iconst 0, 1) := by decide +kernel
theorem dL_lines_244 : decode cL_lines 244 = .ok (.iconst 0, 1) := by decide +kernel
theorem dL_lines_245 : decode cL_lines 245 = .ok (.invokevirtual 19, 3) := by decide +kernel
theorem dL_lines_248 : decode cL_lines 248 = .ok (.bipush 100, 2) := by decide +kernel
theorem dL_lines_250 : decode cL_lines 250 = .ok (.if_icmp .ne 72, 3) := by decide +kernel
theorem dL_lines_253 : decode cL_lines 253 = .ok (.aload_n 0, 1) := by decide +kernel
theorem dL_lines_254 : decode cL_lines 254 = .ok (.iconst 1, 1) := by decide +kernel
theorem dL_lines_255 : decode cL_lines 255 = .ok (.iconst 0, 1) := by decide +kernel
theorem dL_lines_256 : decode cL_lines 256 = .ok (.invokevirtual 19, 3) := by decide +kernel
theorem dL_lines_259 : decode cL_lines 259 = .ok (.sipush 900, 3) := by decide +kernel
theorem dL_lines_262 : decode cL_lines 262 = .ok (.if_icmp .ne 60, 3) := by decide +kernel
theorem dL_lines_265 : decode cL_lines 265 = .ok (.aload_n 0, 1) := by decide +kernel
theorem dL_lines_266 : decode cL_lines 266 = .ok (.iconst 1, 1) := by decide +kernel
theorem dL_lines_267 : decode cL_lines 267 = .ok (.invokevirtual 49, 3) := by decide +kernel
theorem dL_lines_270 : decode cL_lines 270 = .ok (.iconst 1, 1) := by decide +kernel
theorem dL_lines_271 : decode cL_lines 271 = .ok (.if_icmp .ne 51, 3) := by decide +kernel
theorem dL_lines_274 : decode cL_lines 274 = .ok (.aload_n 0, 1) := by decide +kernel
theorem dL_lines_275 : decode cL_lines 275 = .ok (.iconst 0, 1) := by decide +kernel
theorem dL_lines_276 : decode cL_lines 276 = .ok (.iconst 2, 1) := by decide +kernel
theorem dL_lines_277 : decode cL_lines 277 = .ok (.sipush 1000, 3) := by decide +kernel
theorem dL_lines_280 : decode cL_lines 280 = .ok (.sipush 900, 3) := by decide +kernel
theorem dL_lines_283 : decode cL_lines 283 = .ok (.ldc 52, 2) := by decide +kernel
theorem dL_lines_285 : decode cL_lines 285 = .ok (.iconst 0, 1) := by decide +kernel
theorem dL_lines_286 : decode cL_lines 286 = .ok (.invokestatic 91, 3) := by decide +kernel
theorem dL_lines_289 : decode cL_lines 289 = .ok (.ifCond .eq 33, 3) := by decide +kernel
theorem dL_lines_292 : decode cL_lines 292 = .ok (.aload_n 0, 1) := by decide +kernel
theorem dL_lines_293 : decode cL_lines 293 = .ok (.iconst 1, 1) := by decide +kernel
theorem dL_lines_294 : decode cL_lines 294 = .ok (.invokevirtual 56, 3) := by decide +kernel
theorem dL_lines_297 : decode cL_lines 297 = .ok (.bipush 100, 2) := by decide +kernel
theorem dL_lines_299 : decode cL_lines 299 = .ok (.if_icmp .ne 23, 3) := by decide +kernel
theorem dL_lines_302 : decode cL_lines 302 = .ok (.aload_n 0, 1) := by decide +kernel
theorem dL_lines_303 : decode cL_lines 303 = .ok (.iconst 2, 1) := by decide +kernel
theorem dL_lines_304 : decode cL_lines 304 = .ok (.invokevirtual 56, 3) := by decide +kernel
theorem dL_lines_307 : decode cL_lines 307 = .ok (.ldc 96, 2) := by decide +kernel
theorem dL_lines_309 : decode cL_lines 309 = .ok (.if_icmp .ne 13, 3) := by decide +kernel
theorem dL_lines_312 : decode cL_lines 312 = .ok (.aload_n 0, 1) := by decide +kernel
theorem dL_lines_313 : decode cL_lines 313 = .ok (.iconst 3, 1) := by decide +kernel
theorem dL_lines_314 : decode cL_lines 314 = .ok (.invokevirtual 56, 3) := by decide +kernel
theorem dL_lines_317 : decode cL_lines 317 = .ok (.ldc 97, 2) := by decide +kernel
theorem dL_lines_319 : decode cL_lines 319 = .ok (.if_icmp .eq 5, 3) := by decide +kernel
theorem dL_lines_322 : decode cL_lines 322 = .ok (.iconst 0, 1) := by decide +kernel
theorem dL_lines_323 : decode cL_lines 323 = .ok (.ireturn, 1) := by decide +kernel
theorem dL_lines_324 : decode cL_lines 324 = .ok (.aload_n 0, 1) := by decide +kernel
theorem dL_lines_325 : decode cL_lines 325 = .ok (.sipush 1000, 3) := by decide +kernel
theorem dL_lines_328 : decode cL_lines 328 = .ok (.iconst 1, 1) := by decide +kernel
theorem dL_lines_329 : decode cL_lines 329 = .ok (.invokevirtual 59, 3) := by decide +kernel
theorem dL_lines_332 : decode cL_lines 332 = .ok (.ifCond .ne 135, 3) := by decide +kernel
theorem dL_lines_335 : decode cL_lines 335 = .ok (.aload_n 0, 1) := by decide +kernel
theorem dL_lines_336 : decode cL_lines 336 = .ok (.sipush 1000, 3) := by decide +kernel
theorem dL_lines_339 : decode cL_lines 339 = .ok (.iconst 2, 1) := by decide +kernel
theorem dL_lines_340 : decode cL_lines 340 = .ok (.invokevirtual 59, 3) := by decide +kernel
theorem dL_lines_343 : decode cL_lines 343 = .ok (.sipush 900, 3) := by decide +kernel
theorem dL_lines_346 : decode cL_lines 346 = .ok (.if_icmp .ne 121, 3) := by decide +kernel
theorem dL_lines_349 : decode cL_lines 349 = .ok (.aload_n 0, 1) := by decide +kernel
theorem dL_lines_350 : decode cL_lines 350 = .ok (.sipush 1000, 3) := by decide +kernel
theorem dL_lines_353 : decode cL_lines 353 = .ok (.iconst 3, 1) := by decide +kernel
theorem dL_lines_354 : decode cL_lines 354 = .ok (.invokevirtual 59, 3) := by decide +kernel
theorem dL_lines_357 : decode cL_lines 357 = .ok (.bipush 90, 2) := by decide +kernel
theorem dL_lines_359 : decode cL_lines 359 = .ok (.if_icmp .ne 108, 3) := by decide +kernel
theorem dL_lines_362 : decode cL_lines 362 = .ok (.aload_n 0, 1) := by decide +kernel
theorem dL_lines_363 : decode cL_lines 363 = .ok (.sipush 1000, 3) := by decide +kernel
theorem dL_lines_366 : decode cL_lines 366 = .ok (.iconst 4, 1) := by decide +kernel
theorem dL_lines_367 : decode cL_lines 367 = .ok (.invokevirtual 59, 3) := by decide +kernel
theorem dL_lines_370 : decode cL_lines 370 = .ok (.bipush 9, 2) := by decide +kernel
theorem dL_lines_372 : decode cL_lines 372 = .ok (.if_icmp .ne 95, 3) := by decide +kernel
theorem dL_lines_375 : decode cL_lines 375 = .ok (.aload_n 0, 1) := by decide +kernel
theorem dL_lines_376 : decode cL_lines 376 = .ok (.sipush 1000, 3) := by decide +kernel
theorem dL_lines_379 : decode cL_lines 379 = .ok (.iconst 5, 1) := by decide +kernel
theorem dL_lines_380 : decode cL_lines 380 = .ok (.invokevirtual 59, 3) := by decide +kernel
theorem dL_lines_383 : decode cL_lines 383 = .ok (.iconst 1, 1) := by decide +kernel
theorem dL_lines_384 : decode cL_lines 384 = .ok (.if_icmp .ne 83, 3) := by decide +kernel
theorem dL_lines_387 : decode cL_lines 387 = .ok (.aload_n 0, 1) := by decide +kernel
theorem dL_lines_388 : decode cL_lines 388 = .ok (.sipush 1000, 3) := by decide +kernel
theorem dL_lines_391 : decode cL_lines 391 = .ok (.bipush 6, 2) := by decide +kernel
theorem dL_lines_393 : decode cL_lines 393 = .ok (.invokevirtual 59, 3) := by decide +kernel
theorem dL_lines_396 : decode cL_lines 396 = .ok (.ifCond .ne 71, 3) := by decide +kernel
theorem dL_lines_399 : decode cL_lines 399 = .ok (.aload_n 0, 1) := by decide +kernel
theorem dL_lines_400 : decode cL_lines 400 = .ok (.invokevirtual 88, 3) := by decide +kernel
theorem dL_lines_403 : decode cL_lines 403 = .ok (.iconst 3, 1) := by decide +kernel
theorem dL_lines_404 : decode cL_lines 404 = .ok (.if_icmp .ne 63, 3) := by decide +kernel
theorem dL_lines_407 : decode cL_lines 407 = .ok (.aload_n 0, 1) := by decide +kernel
theorem dL_lines_408 : decode cL_lines 408 = .ok (.iconst 0, 1) := by decide +kernel
theorem dL_lines_409 : decode cL_lines 409 = .ok (.invokevirtual 62, 3) := by decide +kernel
theorem dL_lines_412 : decode cL_lines 412 = .ok (.ifCond .ne 55, 3) := by decide +kernel
theorem dL_lines_415 : decode cL_lines 415 = .ok (.aload_n 0, 1) := by decide +kernel
theorem dL_lines_416 : decode cL_lines 416 = .ok (.iconst 1, 1) := by decide +kernel
theorem dL_lines_417 : decode cL_lines 417 = .ok (.invokevirtual 62, 3) := by decide +kernel
theorem dL_lines_420 : decode cL_lines 420 = .ok (.sipush 10000, 3) := by decide +kernel
theorem dL_lines_423 : decode cL_lines 423 = .ok (.if_icmp .ne 44, 3) := by decide +kernel
theorem dL_lines_426 : decode cL_lines 426 = .ok (.aload_n 0, 1) := by decide +kernel
theorem dL_lines_427 : decode cL_lines 427 = .ok (.invokevirtual 85, 3) := by decide +kernel
theorem dL_lines_430 : decode cL_lines 430 = .ok (.sipush 10000, 3) := by decide +kernel
theorem dL_lines_433 : decode cL_lines 433 = .ok (.if_icmp .ne 34, 3) := by decide +kernel
theorem dL_lines_436 : decode cL_lines 436 = .ok (.aload_n 0, 1) := by decide +kernel
theorem dL_lines_437 : decode cL_lines 437 = .ok (.iconst 0, 1) := by decide +kernel
theorem dL_lines_438 : decode cL_lines 438 = .ok (.sipush 1000, 3) := by decide +kernel
theorem dL_lines_441 : decode cL_lines 441 = .ok (.invokevirtual 42, 3) := by decide +kernel
theorem dL_lines_444 : decode cL_lines 444 = .ok (.sipush 20000, 3) := by decide +kernel
theorem dL_lines_447 : decode cL_lines 447 = .ok (.if_icmp .ne 20, 3) := by decide +kernel
theorem dL_lines_450 : decode cL_lines 450 = .ok (.aload_n 0, 1) := by decide +kernel
theorem dL_lines_451 : decode cL_lines 451 = .ok (.invokevirtual 85, 3) := by decide +kernel
theorem dL_lines_454 : decode cL_lines 454 = .ok (.sipush 900, 3) := by decide +kernel
theorem dL_lines_457 : decode cL_lines 457 = .ok (.if_icmp .ne 10, 3) := by decide +kernel
theorem dL_lines_460 : decode cL_lines 460 = .ok (.aload_n 0, 1) := by decide +kernel
theorem dL_lines_461 : decode cL_lines 461 = .ok (.invokestatic 98, 3) := by decide +kernel
theorem dL_lines_464 : decode cL_lines 464 = .ok (.ifCond .ne 5, 3) := by decide +kernel
theorem dL_lines_467 : decode cL_lines 467 = .ok (.iconst 0, 1) := by decide +kernel
theorem dL_lines_468 : decode cL_lines 468 = .ok (.ireturn, 1) := by decide +kernel
theorem dL_lines_469 : decode cL_lines 469 = .ok (.aload_n 0, 1) := by decide +kernel
theorem dL_lines_470 : decode cL_lines 470 = .ok (.sipush 5000, 3) := by decide +kernel
theorem dL_lines_473 : decode cL_lines 473 = .ok (.invokevirtual 46, 3) := by decide +kernel
theorem dL_lines_476 : decode cL_lines 476 = .ok (.iconst 1, 1) := by decide +kernel
theorem dL_lines_477 : decode cL_lines 477 = .ok (.if_icmp .ne 37, 3) := by decide +kernel
theorem dL_lines_480 : decode cL_lines 480 = .ok (.aload_n 0, 1) := by decide +kernel
theorem dL_lines_481 : decode cL_lines 481 = .ok (.iconst 3, 1) := by decide +kernel
theorem dL_lines_482 : decode cL_lines 482 = .ok (.invokevirtual 23, 3) := by decide +kernel
theorem dL_lines_485 : decode cL_lines 485 = .ok (.sipush 4001, 3) := by decide +kernel
theorem dL_lines_488 : decode cL_lines 488 = .ok (.if_icmp .ne 26, 3) := by decide +kernel
theorem dL_lines_491 : decode cL_lines 491 = .ok (.aload_n 0, 1) := by decide +kernel
theorem dL_lines_492 : decode cL_lines 492 = .ok (.iconst 0, 1) := by decide +kernel
theorem dL_lines_493 : decode cL_lines 493 = .ok (.invokevirtual 23, 3) := by decide +kernel
theorem dL_lines_496 : decode cL_lines 496 = .ok (.sipush 6000, 3) := by decide +kernel
theorem dL_lines_499 : decode cL_lines 499 = .ok (.if_icmp .ne 15, 3) := by decide +kernel
theorem dL_lines_502 : decode cL_lines 502 = .ok (.aload_n 0, 1) := by decide +kernel
theorem dL_lines_503 : decode cL_lines 503 = .ok (.iconst 0, 1) := by decide +kernel
theorem dL_lines_504 : decode cL_lines 504 = .ok (.iconst 0, 1) := by decide +kernel
theorem dL_lines_505 : decode cL_lines 505 = .ok (.invokevirtual 19, 3) := by decide +kernel
theorem dL_lines_508 : decode cL_lines 508 = .ok (.sipush 1000, 3) := by decide +kernel
theorem dL_lines_511 : decode cL_lines 511 = .ok (.if_icmp .eq 5, 3) := by decide +kernel
theorem dL_lines_514 : decode cL_lines 514 = .ok (.iconst 0, 1) := by decide +kernel
theorem dL_lines_515 : decode cL_lines 515 = .ok (.ireturn, 1) := by decide +kernel
theorem dL_lines_516 : decode cL_lines 516 = .ok (.aload_n 0, 1) := by decide +kernel
theorem dL_lines_517 : decode cL_lines 517 = .ok (.iconst 3, 1) := by decide +kernel
theorem dL_lines_518 : decode cL_lines 518 = .ok (.invokevirtual 32, 3) := by decide +kernel
theorem dL_lines_521 : decode cL_lines 521 = .ok (.iconst 4, 1) := by decide +kernel
theorem dL_lines_522 : decode cL_lines 522 = .ok (.if_icmp .ne 127, 3) := by decide +kernel
theorem dL_lines_525 : decode cL_lines 525 = .ok (.aload_n 0, 1) := by decide +kernel
theorem dL_lines_526 : decode cL_lines 526 = .ok (.iconst 2, 1) := by decide +kernel
theorem dL_lines_527 : decode cL_lines 527 = .ok (.iconst 1, 1) := by decide +kernel
theorem dL_lines_528 : decode cL_lines 528 = .ok (.invokevirtual 19, 3) := by decide +kernel
theorem dL_lines_531 : decode cL_lines 531 = .ok (.ifCond .ne 118, 3) := by decide +kernel
theorem dL_lines_534 : decode cL_lines 534 = .ok (.aload_n 0, 1) := by decide +kernel
theorem dL_lines_535 : decode cL_lines 535 = .ok (.iconst 2, 1) := by decide +kernel
theorem dL_lines_536 : decode cL_lines 536 = .ok (.bipush 7, 2) := by decide +kernel
theorem dL_lines_538 : decode cL_lines 538 = .ok (.sipush 300, 3) := by decide +kernel
theorem dL_lines_541 : decode cL_lines 541 = .ok (.invokevirtual 38, 3) := by decide +kernel
theorem dL_lines_544 : decode cL_lines 544 = .ok (.ifCond .ne 105, 3) := by decide +kernel
theorem dL_lines_547 : decode cL_lines 547 = .ok (.aload_n 0, 1) := by decide +kernel
theorem dL_lines_548 : decode cL_lines 548 = .ok (.iconst 2, 1) := by decide +kernel
