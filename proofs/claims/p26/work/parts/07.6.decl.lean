theorem dL_holds_231 : decode cL_holds 231 = .ok (.bipush 8, 2) := by decide +kernel
theorem dL_holds_233 : decode cL_holds 233 = .ok (.idiv, 1) := by decide +kernel
theorem dL_holds_234 : decode cL_holds 234 = .ok (.iconst 3, 1) := by decide +kernel
theorem dL_holds_235 : decode cL_holds 235 = .ok (.irem, 1) := by decide +kernel
theorem dL_holds_236 : decode cL_holds 236 = .ok (.iastore, 1) := by decide +kernel
theorem dL_holds_237 : decode cL_holds 237 = .ok (.aload_n 1, 1) := by decide +kernel
theorem dL_holds_238 : decode cL_holds 238 = .ok (.iload 9, 2) := by decide +kernel
theorem dL_holds_240 : decode cL_holds 240 = .ok (.invokestatic 110, 3) := by decide +kernel
theorem dL_holds_243 : decode cL_holds 243 = .ok (.iload 9, 2) := by decide +kernel
theorem dL_holds_245 : decode cL_holds 245 = .ok (.bipush 8, 2) := by decide +kernel
theorem dL_holds_247 : decode cL_holds 247 = .ok (.idiv, 1) := by decide +kernel
theorem dL_holds_248 : decode cL_holds 248 = .ok (.iconst 3, 1) := by decide +kernel
theorem dL_holds_249 : decode cL_holds 249 = .ok (.irem, 1) := by decide +kernel
theorem dL_holds_250 : decode cL_holds 250 = .ok (.invokevirtual 136, 3) := by decide +kernel
theorem dL_holds_253 : decode cL_holds 253 = .ok (.iload 11, 2) := by decide +kernel
theorem dL_holds_255 : decode cL_holds 255 = .ok (.if_icmp .ne 7, 3) := by decide +kernel
theorem dL_holds_258 : decode cL_holds 258 = .ok (.iconst 1, 1) := by decide +kernel
theorem dL_holds_259 : decode cL_holds 259 = .ok (.goto 4, 3) := by decide +kernel
theorem dL_holds_262 : decode cL_holds 262 = .ok (.iconst 0, 1) := by decide +kernel
theorem dL_holds_263 : decode cL_holds 263 = .ok (.istore 6, 2) := by decide +kernel
theorem dL_holds_265 : decode cL_holds 265 = .ok (.goto 146, 3) := by decide +kernel
theorem dL_holds_268 : decode cL_holds 268 = .ok (.iload 8, 2) := by decide +kernel
theorem dL_holds_270 : decode cL_holds 270 = .ok (.iconst 3, 1) := by decide +kernel
theorem dL_holds_271 : decode cL_holds 271 = .ok (.if_icmp .ne 74, 3) := by decide +kernel
theorem dL_holds_274 : decode cL_holds 274 = .ok (.aload 4, 2) := by decide +kernel
theorem dL_holds_276 : decode cL_holds 276 = .ok (.bipush 7, 2) := by decide +kernel
theorem dL_holds_278 : decode cL_holds 278 = .ok (.iload 10, 2) := by decide +kernel
theorem dL_holds_280 : decode cL_holds 280 = .ok (.imul, 1) := by decide +kernel
theorem dL_holds_281 : decode cL_holds 281 = .ok (.bipush 6, 2) := by decide +kernel
theorem dL_holds_283 : decode cL_holds 283 = .ok (.iadd, 1) := by decide +kernel
theorem dL_holds_284 : decode cL_holds 284 = .ok (.iaload, 1) := by decide +kernel
theorem dL_holds_285 : decode cL_holds 285 = .ok (.iconst 1, 1) := by decide +kernel
theorem dL_holds_286 : decode cL_holds 286 = .ok (.if_icmp .ne 7, 3) := by decide +kernel
theorem dL_holds_289 : decode cL_holds 289 = .ok (.iconst 1, 1) := by decide +kernel
theorem dL_holds_290 : decode cL_holds 290 = .ok (.goto 4, 3) := by decide +kernel
theorem dL_holds_293 : decode cL_holds 293 = .ok (.iconst 0, 1) := by decide +kernel
theorem dL_holds_294 : decode cL_holds 294 = .ok (.istore 11, 2) := by decide +kernel
theorem dL_holds_296 : decode cL_holds 296 = .ok (.aload 4, 2) := by decide +kernel
theorem dL_holds_298 : decode cL_holds 298 = .ok (.bipush 7, 2) := by decide +kernel
theorem dL_holds_300 : decode cL_holds 300 = .ok (.iload 10, 2) := by decide +kernel
theorem dL_holds_302 : decode cL_holds 302 = .ok (.imul, 1) := by decide +kernel
theorem dL_holds_303 : decode cL_holds 303 = .ok (.bipush 6, 2) := by decide +kernel
theorem dL_holds_305 : decode cL_holds 305 = .ok (.iadd, 1) := by decide +kernel
theorem dL_holds_306 : decode cL_holds 306 = .ok (.iload 9, 2) := by decide +kernel
theorem dL_holds_308 : decode cL_holds 308 = .ok (.iconst 2, 1) := by decide +kernel
theorem dL_holds_309 : decode cL_holds 309 = .ok (.irem, 1) := by decide +kernel
theorem dL_holds_310 : decode cL_holds 310 = .ok (.iastore, 1) := by decide +kernel
theorem dL_holds_311 : decode cL_holds 311 = .ok (.aload_n 1, 1) := by decide +kernel
theorem dL_holds_312 : decode cL_holds 312 = .ok (.iload 10, 2) := by decide +kernel
theorem dL_holds_314 : decode cL_holds 314 = .ok (.iload 9, 2) := by decide +kernel
theorem dL_holds_316 : decode cL_holds 316 = .ok (.iconst 2, 1) := by decide +kernel
theorem dL_holds_317 : decode cL_holds 317 = .ok (.irem, 1) := by decide +kernel
theorem dL_holds_318 : decode cL_holds 318 = .ok (.iconst 1, 1) := by decide +kernel
theorem dL_holds_319 : decode cL_holds 319 = .ok (.if_icmp .ne 7, 3) := by decide +kernel
theorem dL_holds_322 : decode cL_holds 322 = .ok (.iconst 1, 1) := by decide +kernel
theorem dL_holds_323 : decode cL_holds 323 = .ok (.goto 4, 3) := by decide +kernel
theorem dL_holds_326 : decode cL_holds 326 = .ok (.iconst 0, 1) := by decide +kernel
theorem dL_holds_327 : decode cL_holds 327 = .ok (.invokevirtual 139, 3) := by decide +kernel
theorem dL_holds_330 : decode cL_holds 330 = .ok (.iload 11, 2) := by decide +kernel
theorem dL_holds_332 : decode cL_holds 332 = .ok (.if_icmp .ne 7, 3) := by decide +kernel
theorem dL_holds_335 : decode cL_holds 335 = .ok (.iconst 1, 1) := by decide +kernel
theorem dL_holds_336 : decode cL_holds 336 = .ok (.goto 4, 3) := by decide +kernel
theorem dL_holds_339 : decode cL_holds 339 = .ok (.iconst 0, 1) := by decide +kernel
theorem dL_holds_340 : decode cL_holds 340 = .ok (.istore 6, 2) := by decide +kernel
theorem dL_holds_342 : decode cL_holds 342 = .ok (.goto 69, 3) := by decide +kernel
theorem dL_holds_345 : decode cL_holds 345 = .ok (.iload 8, 2) := by decide +kernel
theorem dL_holds_347 : decode cL_holds 347 = .ok (.iconst 4, 1) := by decide +kernel
theorem dL_holds_348 : decode cL_holds 348 = .ok (.if_icmp .ne 51, 3) := by decide +kernel
theorem dL_holds_351 : decode cL_holds 351 = .ok (.aload 4, 2) := by decide +kernel
theorem dL_holds_353 : decode cL_holds 353 = .ok (.bipush 7, 2) := by decide +kernel
theorem dL_holds_355 : decode cL_holds 355 = .ok (.iload 10, 2) := by decide +kernel
theorem dL_holds_357 : decode cL_holds 357 = .ok (.imul, 1) := by decide +kernel
theorem dL_holds_358 : decode cL_holds 358 = .ok (.iaload, 1) := by decide +kernel
theorem dL_holds_359 : decode cL_holds 359 = .ok (.ifCond .le 40, 3) := by decide +kernel
theorem dL_holds_362 : decode cL_holds 362 = .ok (.aload 4, 2) := by decide +kernel
theorem dL_holds_364 : decode cL_holds 364 = .ok (.bipush 7, 2) := by decide +kernel
theorem dL_holds_366 : decode cL_holds 366 = .ok (.iload 10, 2) := by decide +kernel
theorem dL_holds_368 : decode cL_holds 368 = .ok (.imul, 1) := by decide +kernel
theorem dL_holds_369 : decode cL_holds 369 = .ok (.dup2, 1) := by decide +kernel
theorem dL_holds_370 : decode cL_holds 370 = .ok (.iaload, 1) := by decide +kernel
theorem dL_holds_371 : decode cL_holds 371 = .ok (.iconst 1, 1) := by decide +kernel
theorem dL_holds_372 : decode cL_holds 372 = .ok (.isub, 1) := by decide +kernel
theorem dL_holds_373 : decode cL_holds 373 = .ok (.iastore, 1) := by decide +kernel
theorem dL_holds_374 : decode cL_holds 374 = .ok (.aload_n 1, 1) := by decide +kernel
theorem dL_holds_375 : decode cL_holds 375 = .ok (.iload 10, 2) := by decide +kernel
theorem dL_holds_377 : decode cL_holds 377 = .ok (.invokevirtual 143, 3) := by decide +kernel
theorem dL_holds_380 : decode cL_holds 380 = .ok (.aload_n 1, 1) := by decide +kernel
theorem dL_holds_381 : decode cL_holds 381 = .ok (.iload 10, 2) := by decide +kernel
theorem dL_holds_383 : decode cL_holds 383 = .ok (.invokevirtual 63, 3) := by decide +kernel
theorem dL_holds_386 : decode cL_holds 386 = .ok (.if_icmp .ne 7, 3) := by decide +kernel
theorem dL_holds_389 : decode cL_holds 389 = .ok (.iconst 1, 1) := by decide +kernel
theorem dL_holds_390 : decode cL_holds 390 = .ok (.goto 4, 3) := by decide +kernel
theorem dL_holds_393 : decode cL_holds 393 = .ok (.iconst 0, 1) := by decide +kernel
theorem dL_holds_394 : decode cL_holds 394 = .ok (.istore 6, 2) := by decide +kernel
theorem dL_holds_396 : decode cL_holds 396 = .ok (.goto 15, 3) := by decide +kernel
theorem dL_holds_399 : decode cL_holds 399 = .ok (.aload_n 1, 1) := by decide +kernel
theorem dL_holds_400 : decode cL_holds 400 = .ok (.aload 4, 2) := by decide +kernel
theorem dL_holds_402 : decode cL_holds 402 = .ok (.iload 10, 2) := by decide +kernel
theorem dL_holds_404 : decode cL_holds 404 = .ok (.iload 9, 2) := by decide +kernel
theorem dL_holds_406 : decode cL_holds 406 = .ok (.invokestatic 146, 3) := by decide +kernel
theorem dL_holds_409 : decode cL_holds 409 = .ok (.istore 6, 2) := by decide +kernel
theorem dL_holds_411 : decode cL_holds 411 = .ok (.iload 6, 2) := by decide +kernel
theorem dL_holds_413 : decode cL_holds 413 = .ok (.ifCond .eq 246, 3) := by decide +kernel
theorem dL_holds_416 : decode cL_holds 416 = .ok (.iload 7, 2) := by decide +kernel
theorem dL_holds_418 : decode cL_holds 418 = .ok (.iconst 5, 1) := by decide +kernel
theorem dL_holds_419 : decode cL_holds 419 = .ok (.irem, 1) := by decide +kernel
theorem dL_holds_420 : decode cL_holds 420 = .ok (.iconst 4, 1) := by decide +kernel
theorem dL_holds_421 : decode cL_holds 421 = .ok (.if_icmp .ne 238, 3) := by decide +kernel
theorem dL_holds_424 : decode cL_holds 424 = .ok (.iload 9, 2) := by decide +kernel
theorem dL_holds_426 : decode cL_holds 426 = .ok (.bipush 11, 2) := by decide +kernel
theorem dL_holds_428 : decode cL_holds 428 = .ok (.idiv, 1) := by decide +kernel
theorem dL_holds_429 : decode cL_holds 429 = .ok (.bipush 8, 2) := by decide +kernel
theorem dL_holds_431 : decode cL_holds 431 = .ok (.irem, 1) := by decide +kernel
theorem dL_holds_432 : decode cL_holds 432 = .ok (.bipush 12, 2) := by decide +kernel
theorem dL_holds_434 : decode cL_holds 434 = .ok (.imul, 1) := by decide +kernel
theorem dL_holds_435 : decode cL_holds 435 = .ok (.iload 9, 2) := by decide +kernel
theorem dL_holds_437 : decode cL_holds 437 = .ok (.bipush 97, 2) := by decide +kernel
theorem dL_holds_439 : decode cL_holds 439 = .ok (.idiv, 1) := by decide +kernel
theorem dL_holds_440 : decode cL_holds 440 = .ok (.bipush 8, 2) := by decide +kernel
theorem dL_holds_442 : decode cL_holds 442 = .ok (.irem, 1) := by decide +kernel
theorem dL_holds_443 : decode cL_holds 443 = .ok (.iadd, 1) := by decide +kernel
theorem dL_holds_444 : decode cL_holds 444 = .ok (.istore 11, 2) := by decide +kernel
theorem dL_holds_446 : decode cL_holds 446 = .ok (.aload_n 1, 1) := by decide +kernel
theorem dL_holds_447 : decode cL_holds 447 = .ok (.aload_n 2, 1) := by decide +kernel
theorem dL_holds_448 : decode cL_holds 448 = .ok (.aload_n 3, 1) := by decide +kernel
theorem dL_holds_449 : decode cL_holds 449 = .ok (.iload 5, 2) := by decide +kernel
theorem dL_holds_451 : decode cL_holds 451 = .ok (.invokestatic 150, 3) := by decide +kernel
theorem dL_holds_454 : decode cL_holds 454 = .ok (.ifCond .eq 40, 3) := by decide +kernel
theorem dL_holds_457 : decode cL_holds 457 = .ok (.aload_n 1, 1) := by decide +kernel
theorem dL_holds_458 : decode cL_holds 458 = .ok (.aload 4, 2) := by decide +kernel
theorem dL_holds_460 : decode cL_holds 460 = .ok (.iload 5, 2) := by decide +kernel
theorem dL_holds_462 : decode cL_holds 462 = .ok (.iload 11, 2) := by decide +kernel
theorem dL_holds_464 : decode cL_holds 464 = .ok (.iload 9, 2) := by decide +kernel
theorem dL_holds_466 : decode cL_holds 466 = .ok (.bipush 13, 2) := by decide +kernel
theorem dL_holds_468 : decode cL_holds 468 = .ok (.idiv, 1) := by decide +kernel
theorem dL_holds_469 : decode cL_holds 469 = .ok (.bipush 6, 2) := by decide +kernel
theorem dL_holds_471 : decode cL_holds 471 = .ok (.irem, 1) := by decide +kernel
theorem dL_holds_472 : decode cL_holds 472 = .ok (.bipush 12, 2) := by decide +kernel
theorem dL_holds_474 : decode cL_holds 474 = .ok (.imul, 1) := by decide +kernel
theorem dL_holds_475 : decode cL_holds 475 = .ok (.iload 9, 2) := by decide +kernel
theorem dL_holds_477 : decode cL_holds 477 = .ok (.bipush 89, 2) := by decide +kernel
theorem dL_holds_479 : decode cL_holds 479 = .ok (.idiv, 1) := by decide +kernel
theorem dL_holds_480 : decode cL_holds 480 = .ok (.bipush 6, 2) := by decide +kernel
theorem dL_holds_482 : decode cL_holds 482 = .ok (.irem, 1) := by decide +kernel
theorem dL_holds_483 : decode cL_holds 483 = .ok (.iadd, 1) := by decide +kernel
theorem dL_holds_484 : decode cL_holds 484 = .ok (.invokestatic 154, 3) := by decide +kernel
theorem dL_holds_487 : decode cL_holds 487 = .ok (.ifCond .eq 7, 3) := by decide +kernel
theorem dL_holds_490 : decode cL_holds 490 = .ok (.iconst 1, 1) := by decide +kernel
theorem dL_holds_491 : decode cL_holds 491 = .ok (.goto 4, 3) := by decide +kernel
theorem dL_holds_494 : decode cL_holds 494 = .ok (.iconst 0, 1) := by decide +kernel
theorem dL_holds_495 : decode cL_holds 495 = .ok (.istore 6, 2) := by decide +kernel
theorem dL_holds_497 : decode cL_holds 497 = .ok (.iconst 0, 1) := by decide +kernel
theorem dL_holds_498 : decode cL_holds 498 = .ok (.istore 12, 2) := by decide +kernel
theorem dL_holds_500 : decode cL_holds 500 = .ok (.iconst 0, 1) := by decide +kernel
theorem dL_holds_501 : decode cL_holds 501 = .ok (.istore 13, 2) := by decide +kernel
theorem dL_holds_503 : decode cL_holds 503 = .ok (.iload 13, 2) := by decide +kernel
theorem dL_holds_505 : decode cL_holds 505 = .ok (.iload 5, 2) := by decide +kernel
theorem dL_holds_507 : decode cL_holds 507 = .ok (.if_icmp .ge 72, 3) := by decide +kernel
theorem dL_holds_510 : decode cL_holds 510 = .ok (.iload 6, 2) := by decide +kernel
theorem dL_holds_512 : decode cL_holds 512 = .ok (.ifCond .eq 67, 3) := by decide +kernel
theorem dL_holds_515 : decode cL_holds 515 = .ok (.aload_n 1, 1) := by decide +kernel
theorem dL_holds_516 : decode cL_holds 516 = .ok (.aload_n 2, 1) := by decide +kernel
theorem dL_holds_517 : decode cL_holds 517 = .ok (.aload_n 3, 1) := by decide +kernel
theorem dL_holds_518 : decode cL_holds 518 = .ok (.aload 4, 2) := by decide +kernel
theorem dL_holds_520 : decode cL_holds 520 = .ok (.iload 13, 2) := by decide +kernel
theorem dL_holds_522 : decode cL_holds 522 = .ok (.invokestatic 158, 3) := by decide +kernel
theorem dL_holds_525 : decode cL_holds 525 = .ok (.ifCond .eq 20, 3) := by decide +kernel
theorem dL_holds_528 : decode cL_holds 528 = .ok (.aload_n 1, 1) := by decide +kernel
theorem dL_holds_529 : decode cL_holds 529 = .ok (.aload 4, 2) := by decide +kernel
theorem dL_holds_531 : decode cL_holds 531 = .ok (.iload 13, 2) := by decide +kernel
theorem dL_holds_533 : decode cL_holds 533 = .ok (.iload 11, 2) := by decide +kernel
theorem dL_holds_535 : decode cL_holds 535 = .ok (.invokestatic 162, 3) := by decide +kernel
theorem dL_holds_538 : decode cL_holds 538 = .ok (.ifCond .eq 7, 3) := by decide +kernel
theorem dL_holds_541 : decode cL_holds 541 = .ok (.iconst 1, 1) := by decide +kernel
theorem dL_holds_542 : decode cL_holds 542 = .ok (.goto 4, 3) := by decide +kernel
theorem dL_holds_545 : decode cL_holds 545 = .ok (.iconst 0, 1) := by decide +kernel
theorem dL_holds_546 : decode cL_holds 546 = .ok (.istore 6, 2) := by decide +kernel
theorem dL_holds_548 : decode cL_holds 548 = .ok (.iload 12, 2) := by decide +kernel
theorem dL_holds_550 : decode cL_holds 550 = .ok (.aload 4, 2) := by decide +kernel
theorem dL_holds_552 : decode cL_holds 552 = .ok (.iload 13, 2) := by decide +kernel
theorem dL_holds_554 : decode cL_holds 554 = .ok (.iload 11, 2) := by decide +kernel
theorem dL_holds_556 : decode cL_holds 556 = .ok (.invokestatic 47, 3) := by decide +kernel
theorem dL_holds_559 : decode cL_holds 559 = .ok (.ifCond .eq 10, 3) := by decide +kernel
theorem dL_holds_562 : decode cL_holds 562 = .ok (.iconst 1, 1) := by decide +kernel
theorem dL_holds_563 : decode cL_holds 563 = .ok (.iload 13, 2) := by decide +kernel
theorem dL_holds_565 : decode cL_holds 565 = .ok (.ishl, 1) := by decide +kernel
theorem dL_holds_566 : decode cL_holds 566 = .ok (.goto 4, 3) := by decide +kernel
theorem dL_holds_569 : decode cL_holds 569 = .ok (.iconst 0, 1) := by decide +kernel
theorem dL_holds_570 : decode cL_holds 570 = .ok (.ior, 1) := by decide +kernel
theorem dL_holds_571 : decode cL_holds 571 = .ok (.istore 12, 2) := by decide +kernel
theorem dL_holds_573 : decode cL_holds 573 = .ok (.iinc 13 1, 3) := by decide +kernel
theorem dL_holds_576 : decode cL_holds 576 = .ok (.goto (-73), 3) := by decide +kernel
theorem dL_holds_579 : decode cL_holds 579 = .ok (.iload 6, 2) := by decide +kernel
theorem dL_holds_581 : decode cL_holds 581 = .ok (.ifCond .eq 75, 3) := by decide +kernel
theorem dL_holds_584 : decode cL_holds 584 = .ok (.aload_n 1, 1) := by decide +kernel
theorem dL_holds_585 : decode cL_holds 585 = .ok (.iload 11, 2) := by decide +kernel
theorem dL_holds_587 : decode cL_holds 587 = .ok (.bipush 12, 2) := by decide +kernel
theorem dL_holds_589 : decode cL_holds 589 = .ok (.idiv, 1) := by decide +kernel
theorem dL_holds_590 : decode cL_holds 590 = .ok (.iload 11, 2) := by decide +kernel
theorem dL_holds_592 : decode cL_holds 592 = .ok (.bipush 12, 2) := by decide +kernel
theorem dL_holds_594 : decode cL_holds 594 = .ok (.irem, 1) := by decide +kernel
theorem dL_holds_595 : decode cL_holds 595 = .ok (.invokevirtual 165, 3) := by decide +kernel
theorem dL_holds_598 : decode cL_holds 598 = .ok (.iload 12, 2) := by decide +kernel
theorem dL_holds_600 : decode cL_holds 600 = .ok (.if_icmp .ne 56, 3) := by decide +kernel
theorem dL_holds_603 : decode cL_holds 603 = .ok (.aload 4, 2) := by decide +kernel
theorem dL_holds_605 : decode cL_holds 605 = .ok (.bipush 7, 2) := by decide +kernel
theorem dL_holds_607 : decode cL_holds 607 = .ok (.iload 10, 2) := by decide +kernel
theorem dL_holds_609 : decode cL_holds 609 = .ok (.imul, 1) := by decide +kernel
theorem dL_holds_610 : decode cL_holds 610 = .ok (.iaload, 1) := by decide +kernel
theorem dL_holds_611 : decode cL_holds 611 = .ok (.ifCond .eq 41, 3) := by decide +kernel
theorem dL_holds_614 : decode cL_holds 614 = .ok (.aload_n 1, 1) := by decide +kernel
theorem dL_holds_615 : decode cL_holds 615 = .ok (.aload 4, 2) := by decide +kernel
theorem dL_holds_617 : decode cL_holds 617 = .ok (.iload 5, 2) := by decide +kernel
theorem dL_holds_619 : decode cL_holds 619 = .ok (.aload 4, 2) := by decide +kernel
theorem dL_holds_621 : decode cL_holds 621 = .ok (.bipush 7, 2) := by decide +kernel
theorem dL_holds_623 : decode cL_holds 623 = .ok (.iload 10, 2) := by decide +kernel
theorem dL_holds_625 : decode cL_holds 625 = .ok (.imul, 1) := by decide +kernel
theorem dL_holds_626 : decode cL_holds 626 = .ok (.iconst 1, 1) := by decide +kernel
theorem dL_holds_627 : decode cL_holds 627 = .ok (.iadd, 1) := by decide +kernel
theorem dL_holds_628 : decode cL_holds 628 = .ok (.iaload, 1) := by decide +kernel
theorem dL_holds_629 : decode cL_holds 629 = .ok (.aload 4, 2) := by decide +kernel
theorem dL_holds_631 : decode cL_holds 631 = .ok (.bipush 7, 2) := by decide +kernel
theorem dL_holds_633 : decode cL_holds 633 = .ok (.iload 10, 2) := by decide +kernel
theorem dL_holds_635 : decode cL_holds 635 = .ok (.imul, 1) := by decide +kernel
theorem dL_holds_636 : decode cL_holds 636 = .ok (.aload 4, 2) := by decide +kernel
theorem dL_holds_638 : decode cL_holds 638 = .ok (.bipush 7, 2) := by decide +kernel
theorem dL_holds_640 : decode cL_holds 640 = .ok (.iload 10, 2) := by decide +kernel
theorem dL_holds_642 : decode cL_holds 642 = .ok (.imul, 1) := by decide +kernel
theorem dL_holds_643 : decode cL_holds 643 = .ok (.iaload, 1) := by decide +kernel
theorem dL_holds_644 : decode cL_holds 644 = .ok (.iadd, 1) := by decide +kernel
theorem dL_holds_645 : decode cL_holds 645 = .ok (.iaload, 1) := by decide +kernel
theorem dL_holds_646 : decode cL_holds 646 = .ok (.invokestatic 154, 3) := by decide +kernel
theorem dL_holds_649 : decode cL_holds 649 = .ok (.ifCond .eq 7, 3) := by decide +kernel
theorem dL_holds_652 : decode cL_holds 652 = .ok (.iconst 1, 1) := by decide +kernel
theorem dL_holds_653 : decode cL_holds 653 = .ok (.goto 4, 3) := by decide +kernel
theorem dL_holds_656 : decode cL_holds 656 = .ok (.iconst 0, 1) := by decide +kernel
theorem dL_holds_657 : decode cL_holds 657 = .ok (.istore 6, 2) := by decide +kernel
theorem dL_holds_659 : decode cL_holds 659 = .ok (.iinc 7 1, 3) := by decide +kernel
theorem dL_holds_662 : decode cL_holds 662 = .ok (.goto (-609), 3) := by decide +kernel
theorem dL_holds_665 : decode cL_holds 665 = .ok (.iload 6, 2) := by decide +kernel
theorem dL_holds_667 : decode cL_holds 667 = .ok (.ireturn, 1) := by decide +kernel
theorem dL_isHeld_0 : decode cL_isHeld 0 = .ok (.aload_n 0, 1) := by decide +kernel
theorem dL_isHeld_1 : decode cL_isHeld 1 = .ok (.invokestatic 168, 3) := by decide +kernel
theorem dL_isHeld_4 : decode cL_isHeld 4 = .ok (.ireturn, 1) := by decide +kernel
theorem dL_isHeld_5 : decode cL_isHeld 5 = .ok (.astore_n 1, 1) := by decide +kernel
theorem dL_isHeld_6 : decode cL_isHeld 6 = .ok (.iconst 0, 1) := by decide +kernel
theorem dL_isHeld_7 : decode cL_isHeld 7 = .ok (.ireturn, 1) := by decide +kernel
theorem dL_isHeld_8 : decode cL_isHeld 8 = .ok (.astore_n 1, 1) := by decide +kernel
theorem dL_isHeld_9 : decode cL_isHeld 9 = .ok (.iconst 0, 1) := by decide +kernel
theorem dL_isHeld_10 : decode cL_isHeld 10 = .ok (.ireturn, 1) := by decide +kernel
theorem dL_isHeld_11 : decode cL_isHeld 11 = .ok (.astore_n 1, 1) := by decide +kernel
theorem dL_isHeld_12 : decode cL_isHeld 12 = .ok (.iconst 0, 1) := by decide +kernel
theorem dL_isHeld_13 : decode cL_isHeld 13 = .ok (.ireturn, 1) := by decide +kernel
theorem dL_law_0 : decode cL_law 0 = .ok (.aload_n 0, 1) := by decide +kernel
theorem dL_law_1 : decode cL_law 1 = .ok (.invokestatic 176, 3) := by decide +kernel
theorem dL_law_4 : decode cL_law 4 = .ok (.ireturn, 1) := by decide +kernel
