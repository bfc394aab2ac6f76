theorem dL_build_272 : decode cL_build 272 = .ok (.if_icmp .ne 21, 3) := by decide +kernel
theorem dL_build_275 : decode cL_build 275 = .ok (.aload_n 0, 1) := by decide +kernel
theorem dL_build_276 : decode cL_build 276 = .ok (.iload 7, 2) := by decide +kernel
theorem dL_build_278 : decode cL_build 278 = .ok (.aload 4, 2) := by decide +kernel
theorem dL_build_280 : decode cL_build 280 = .ok (.iconst 5, 1) := by decide +kernel
theorem dL_build_281 : decode cL_build 281 = .ok (.iload 7, 2) := by decide +kernel
theorem dL_build_283 : decode cL_build 283 = .ok (.imul, 1) := by decide +kernel
theorem dL_build_284 : decode cL_build 284 = .ok (.iconst 4, 1) := by decide +kernel
theorem dL_build_285 : decode cL_build 285 = .ok (.iadd, 1) := by decide +kernel
theorem dL_build_286 : decode cL_build 286 = .ok (.iaload, 1) := by decide +kernel
theorem dL_build_287 : decode cL_build 287 = .ok (.invokevirtual 28, 3) := by decide +kernel
theorem dL_build_290 : decode cL_build 290 = .ok (.ifCond .eq 5, 3) := by decide +kernel
theorem dL_build_293 : decode cL_build 293 = .ok (.iconst 0, 1) := by decide +kernel
theorem dL_build_294 : decode cL_build 294 = .ok (.ireturn, 1) := by decide +kernel
theorem dL_build_295 : decode cL_build 295 = .ok (.iinc 7 1, 3) := by decide +kernel
theorem dL_build_298 : decode cL_build 298 = .ok (.goto (-178), 3) := by decide +kernel
theorem dL_build_301 : decode cL_build 301 = .ok (.aload 6, 2) := by decide +kernel
theorem dL_build_303 : decode cL_build 303 = .ok (.iconst 1, 1) := by decide +kernel
theorem dL_build_304 : decode cL_build 304 = .ok (.aload_n 1, 1) := by decide +kernel
theorem dL_build_305 : decode cL_build 305 = .ok (.iload_n 2, 1) := by decide +kernel
theorem dL_build_306 : decode cL_build 306 = .ok (.invokestatic 9, 3) := by decide +kernel
theorem dL_build_309 : decode cL_build 309 = .ok (.iconst 5, 1) := by decide +kernel
theorem dL_build_310 : decode cL_build 310 = .ok (.ishr, 1) := by decide +kernel
theorem dL_build_311 : decode cL_build 311 = .ok (.iconst 5, 1) := by decide +kernel
theorem dL_build_312 : decode cL_build 312 = .ok (.invokestatic 15, 3) := by decide +kernel
theorem dL_build_315 : decode cL_build 315 = .ok (.iastore, 1) := by decide +kernel
theorem dL_build_316 : decode cL_build 316 = .ok (.iconst 0, 1) := by decide +kernel
theorem dL_build_317 : decode cL_build 317 = .ok (.istore 7, 2) := by decide +kernel
theorem dL_build_319 : decode cL_build 319 = .ok (.iload 7, 2) := by decide +kernel
theorem dL_build_321 : decode cL_build 321 = .ok (.aload 6, 2) := by decide +kernel
theorem dL_build_323 : decode cL_build 323 = .ok (.iconst 1, 1) := by decide +kernel
theorem dL_build_324 : decode cL_build 324 = .ok (.iaload, 1) := by decide +kernel
theorem dL_build_325 : decode cL_build 325 = .ok (.if_icmp .ge 160, 3) := by decide +kernel
theorem dL_build_328 : decode cL_build 328 = .ok (.aload_n 1, 1) := by decide +kernel
theorem dL_build_329 : decode cL_build 329 = .ok (.iload_n 2, 1) := by decide +kernel
theorem dL_build_330 : decode cL_build 330 = .ok (.bipush 10, 2) := by decide +kernel
theorem dL_build_332 : decode cL_build 332 = .ok (.iadd, 1) := by decide +kernel
theorem dL_build_333 : decode cL_build 333 = .ok (.iload 7, 2) := by decide +kernel
theorem dL_build_335 : decode cL_build 335 = .ok (.iadd, 1) := by decide +kernel
theorem dL_build_336 : decode cL_build 336 = .ok (.invokestatic 9, 3) := by decide +kernel
theorem dL_build_339 : decode cL_build 339 = .ok (.istore 8, 2) := by decide +kernel
theorem dL_build_341 : decode cL_build 341 = .ok (.aload 5, 2) := by decide +kernel
theorem dL_build_343 : decode cL_build 343 = .ok (.iconst 4, 1) := by decide +kernel
theorem dL_build_344 : decode cL_build 344 = .ok (.iload 7, 2) := by decide +kernel
theorem dL_build_346 : decode cL_build 346 = .ok (.imul, 1) := by decide +kernel
theorem dL_build_347 : decode cL_build 347 = .ok (.iload 8, 2) := by decide +kernel
theorem dL_build_349 : decode cL_build 349 = .ok (.iconst 2, 1) := by decide +kernel
theorem dL_build_350 : decode cL_build 350 = .ok (.invokestatic 15, 3) := by decide +kernel
theorem dL_build_353 : decode cL_build 353 = .ok (.iastore, 1) := by decide +kernel
theorem dL_build_354 : decode cL_build 354 = .ok (.aload 5, 2) := by decide +kernel
theorem dL_build_356 : decode cL_build 356 = .ok (.iconst 4, 1) := by decide +kernel
theorem dL_build_357 : decode cL_build 357 = .ok (.iload 7, 2) := by decide +kernel
theorem dL_build_359 : decode cL_build 359 = .ok (.imul, 1) := by decide +kernel
theorem dL_build_360 : decode cL_build 360 = .ok (.iconst 1, 1) := by decide +kernel
theorem dL_build_361 : decode cL_build 361 = .ok (.iadd, 1) := by decide +kernel
theorem dL_build_362 : decode cL_build 362 = .ok (.iload 8, 2) := by decide +kernel
theorem dL_build_364 : decode cL_build 364 = .ok (.iconst 2, 1) := by decide +kernel
theorem dL_build_365 : decode cL_build 365 = .ok (.ishr, 1) := by decide +kernel
theorem dL_build_366 : decode cL_build 366 = .ok (.aload 6, 2) := by decide +kernel
theorem dL_build_368 : decode cL_build 368 = .ok (.iconst 0, 1) := by decide +kernel
theorem dL_build_369 : decode cL_build 369 = .ok (.iaload, 1) := by decide +kernel
theorem dL_build_370 : decode cL_build 370 = .ok (.invokestatic 15, 3) := by decide +kernel
theorem dL_build_373 : decode cL_build 373 = .ok (.iastore, 1) := by decide +kernel
theorem dL_build_374 : decode cL_build 374 = .ok (.aload 5, 2) := by decide +kernel
theorem dL_build_376 : decode cL_build 376 = .ok (.iconst 4, 1) := by decide +kernel
theorem dL_build_377 : decode cL_build 377 = .ok (.iload 7, 2) := by decide +kernel
theorem dL_build_379 : decode cL_build 379 = .ok (.imul, 1) := by decide +kernel
theorem dL_build_380 : decode cL_build 380 = .ok (.iconst 2, 1) := by decide +kernel
theorem dL_build_381 : decode cL_build 381 = .ok (.iadd, 1) := by decide +kernel
theorem dL_build_382 : decode cL_build 382 = .ok (.iload 8, 2) := by decide +kernel
theorem dL_build_384 : decode cL_build 384 = .ok (.bipush 6, 2) := by decide +kernel
theorem dL_build_386 : decode cL_build 386 = .ok (.ishr, 1) := by decide +kernel
theorem dL_build_387 : decode cL_build 387 = .ok (.aload 6, 2) := by decide +kernel
theorem dL_build_389 : decode cL_build 389 = .ok (.iconst 0, 1) := by decide +kernel
theorem dL_build_390 : decode cL_build 390 = .ok (.iaload, 1) := by decide +kernel
theorem dL_build_391 : decode cL_build 391 = .ok (.invokestatic 15, 3) := by decide +kernel
theorem dL_build_394 : decode cL_build 394 = .ok (.iastore, 1) := by decide +kernel
theorem dL_build_395 : decode cL_build 395 = .ok (.aload 5, 2) := by decide +kernel
theorem dL_build_397 : decode cL_build 397 = .ok (.iconst 4, 1) := by decide +kernel
theorem dL_build_398 : decode cL_build 398 = .ok (.iload 7, 2) := by decide +kernel
theorem dL_build_400 : decode cL_build 400 = .ok (.imul, 1) := by decide +kernel
theorem dL_build_401 : decode cL_build 401 = .ok (.iconst 3, 1) := by decide +kernel
theorem dL_build_402 : decode cL_build 402 = .ok (.iadd, 1) := by decide +kernel
theorem dL_build_403 : decode cL_build 403 = .ok (.iload 8, 2) := by decide +kernel
theorem dL_build_405 : decode cL_build 405 = .ok (.bipush 10, 2) := by decide +kernel
theorem dL_build_407 : decode cL_build 407 = .ok (.ishr, 1) := by decide +kernel
theorem dL_build_408 : decode cL_build 408 = .ok (.iconst 5, 1) := by decide +kernel
theorem dL_build_409 : decode cL_build 409 = .ok (.invokestatic 15, 3) := by decide +kernel
theorem dL_build_412 : decode cL_build 412 = .ok (.ifCond .ne 7, 3) := by decide +kernel
theorem dL_build_415 : decode cL_build 415 = .ok (.iconst 0, 1) := by decide +kernel
theorem dL_build_416 : decode cL_build 416 = .ok (.goto 4, 3) := by decide +kernel
theorem dL_build_419 : decode cL_build 419 = .ok (.iconst 1, 1) := by decide +kernel
theorem dL_build_420 : decode cL_build 420 = .ok (.iastore, 1) := by decide +kernel
theorem dL_build_421 : decode cL_build 421 = .ok (.aload_n 0, 1) := by decide +kernel
theorem dL_build_422 : decode cL_build 422 = .ok (.aload 5, 2) := by decide +kernel
theorem dL_build_424 : decode cL_build 424 = .ok (.iconst 4, 1) := by decide +kernel
theorem dL_build_425 : decode cL_build 425 = .ok (.iload 7, 2) := by decide +kernel
theorem dL_build_427 : decode cL_build 427 = .ok (.imul, 1) := by decide +kernel
theorem dL_build_428 : decode cL_build 428 = .ok (.iaload, 1) := by decide +kernel
theorem dL_build_429 : decode cL_build 429 = .ok (.aload 5, 2) := by decide +kernel
theorem dL_build_431 : decode cL_build 431 = .ok (.iconst 4, 1) := by decide +kernel
theorem dL_build_432 : decode cL_build 432 = .ok (.iload 7, 2) := by decide +kernel
theorem dL_build_434 : decode cL_build 434 = .ok (.imul, 1) := by decide +kernel
theorem dL_build_435 : decode cL_build 435 = .ok (.iconst 1, 1) := by decide +kernel
theorem dL_build_436 : decode cL_build 436 = .ok (.iadd, 1) := by decide +kernel
theorem dL_build_437 : decode cL_build 437 = .ok (.iaload, 1) := by decide +kernel
theorem dL_build_438 : decode cL_build 438 = .ok (.aload 5, 2) := by decide +kernel
theorem dL_build_440 : decode cL_build 440 = .ok (.iconst 4, 1) := by decide +kernel
theorem dL_build_441 : decode cL_build 441 = .ok (.iload 7, 2) := by decide +kernel
theorem dL_build_443 : decode cL_build 443 = .ok (.imul, 1) := by decide +kernel
theorem dL_build_444 : decode cL_build 444 = .ok (.iconst 2, 1) := by decide +kernel
theorem dL_build_445 : decode cL_build 445 = .ok (.iadd, 1) := by decide +kernel
theorem dL_build_446 : decode cL_build 446 = .ok (.iaload, 1) := by decide +kernel
theorem dL_build_447 : decode cL_build 447 = .ok (.invokevirtual 31, 3) := by decide +kernel
theorem dL_build_450 : decode cL_build 450 = .ok (.iload 7, 2) := by decide +kernel
theorem dL_build_452 : decode cL_build 452 = .ok (.if_icmp .ne 25, 3) := by decide +kernel
theorem dL_build_455 : decode cL_build 455 = .ok (.aload 5, 2) := by decide +kernel
theorem dL_build_457 : decode cL_build 457 = .ok (.iconst 4, 1) := by decide +kernel
theorem dL_build_458 : decode cL_build 458 = .ok (.iload 7, 2) := by decide +kernel
theorem dL_build_460 : decode cL_build 460 = .ok (.imul, 1) := by decide +kernel
theorem dL_build_461 : decode cL_build 461 = .ok (.iconst 3, 1) := by decide +kernel
theorem dL_build_462 : decode cL_build 462 = .ok (.iadd, 1) := by decide +kernel
theorem dL_build_463 : decode cL_build 463 = .ok (.iaload, 1) := by decide +kernel
theorem dL_build_464 : decode cL_build 464 = .ok (.ifCond .ne 15, 3) := by decide +kernel
theorem dL_build_467 : decode cL_build 467 = .ok (.aload_n 0, 1) := by decide +kernel
theorem dL_build_468 : decode cL_build 468 = .ok (.iload 7, 2) := by decide +kernel
theorem dL_build_470 : decode cL_build 470 = .ok (.iconst 0, 1) := by decide +kernel
theorem dL_build_471 : decode cL_build 471 = .ok (.invokevirtual 35, 3) := by decide +kernel
theorem dL_build_474 : decode cL_build 474 = .ok (.ifCond .ne 5, 3) := by decide +kernel
theorem dL_build_477 : decode cL_build 477 = .ok (.iconst 0, 1) := by decide +kernel
theorem dL_build_478 : decode cL_build 478 = .ok (.ireturn, 1) := by decide +kernel
theorem dL_build_479 : decode cL_build 479 = .ok (.iinc 7 1, 3) := by decide +kernel
theorem dL_build_482 : decode cL_build 482 = .ok (.goto (-163), 3) := by decide +kernel
theorem dL_build_485 : decode cL_build 485 = .ok (.aload 6, 2) := by decide +kernel
theorem dL_build_487 : decode cL_build 487 = .ok (.iconst 2, 1) := by decide +kernel
theorem dL_build_488 : decode cL_build 488 = .ok (.aload_n 1, 1) := by decide +kernel
theorem dL_build_489 : decode cL_build 489 = .ok (.iload_n 2, 1) := by decide +kernel
theorem dL_build_490 : decode cL_build 490 = .ok (.invokestatic 9, 3) := by decide +kernel
theorem dL_build_493 : decode cL_build 493 = .ok (.bipush 9, 2) := by decide +kernel
theorem dL_build_495 : decode cL_build 495 = .ok (.ishr, 1) := by decide +kernel
theorem dL_build_496 : decode cL_build 496 = .ok (.iconst 3, 1) := by decide +kernel
theorem dL_build_497 : decode cL_build 497 = .ok (.invokestatic 15, 3) := by decide +kernel
theorem dL_build_500 : decode cL_build 500 = .ok (.ifCond .ne 19, 3) := by decide +kernel
theorem dL_build_503 : decode cL_build 503 = .ok (.aload_n 1, 1) := by decide +kernel
theorem dL_build_504 : decode cL_build 504 = .ok (.iload_n 2, 1) := by decide +kernel
theorem dL_build_505 : decode cL_build 505 = .ok (.invokestatic 9, 3) := by decide +kernel
theorem dL_build_508 : decode cL_build 508 = .ok (.bipush 11, 2) := by decide +kernel
theorem dL_build_510 : decode cL_build 510 = .ok (.ishr, 1) := by decide +kernel
theorem dL_build_511 : decode cL_build 511 = .ok (.bipush 30, 2) := by decide +kernel
theorem dL_build_513 : decode cL_build 513 = .ok (.invokestatic 15, 3) := by decide +kernel
theorem dL_build_516 : decode cL_build 516 = .ok (.goto 4, 3) := by decide +kernel
theorem dL_build_519 : decode cL_build 519 = .ok (.iconst (-1), 1) := by decide +kernel
theorem dL_build_520 : decode cL_build 520 = .ok (.iastore, 1) := by decide +kernel
theorem dL_build_521 : decode cL_build 521 = .ok (.aload_n 0, 1) := by decide +kernel
theorem dL_build_522 : decode cL_build 522 = .ok (.aload 6, 2) := by decide +kernel
theorem dL_build_524 : decode cL_build 524 = .ok (.iconst 2, 1) := by decide +kernel
theorem dL_build_525 : decode cL_build 525 = .ok (.iaload, 1) := by decide +kernel
theorem dL_build_526 : decode cL_build 526 = .ok (.invokevirtual 39, 3) := by decide +kernel
theorem dL_build_529 : decode cL_build 529 = .ok (.iconst (-1), 1) := by decide +kernel
theorem dL_build_530 : decode cL_build 530 = .ok (.if_icmp .ne 18, 3) := by decide +kernel
theorem dL_build_533 : decode cL_build 533 = .ok (.aload_n 0, 1) := by decide +kernel
theorem dL_build_534 : decode cL_build 534 = .ok (.invokevirtual 43, 3) := by decide +kernel
theorem dL_build_537 : decode cL_build 537 = .ok (.aload 6, 2) := by decide +kernel
theorem dL_build_539 : decode cL_build 539 = .ok (.iconst 0, 1) := by decide +kernel
theorem dL_build_540 : decode cL_build 540 = .ok (.iaload, 1) := by decide +kernel
theorem dL_build_541 : decode cL_build 541 = .ok (.if_icmp .ne 7, 3) := by decide +kernel
theorem dL_build_544 : decode cL_build 544 = .ok (.iconst 1, 1) := by decide +kernel
theorem dL_build_545 : decode cL_build 545 = .ok (.goto 4, 3) := by decide +kernel
theorem dL_build_548 : decode cL_build 548 = .ok (.iconst 0, 1) := by decide +kernel
theorem dL_build_549 : decode cL_build 549 = .ok (.ireturn, 1) := by decide +kernel
