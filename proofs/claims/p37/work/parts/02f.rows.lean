theorem dL_hangs_252 : decode cL_hangs 252 = .ok (.istore 14, 2) := by decide +kernel
theorem dL_hangs_254 : decode cL_hangs 254 = .ok (.iload 14, 2) := by decide +kernel
theorem dL_hangs_256 : decode cL_hangs 256 = .ok (.iload_n 3, 1) := by decide +kernel
theorem dL_hangs_257 : decode cL_hangs 257 = .ok (.if_icmp .ge 104, 3) := by decide +kernel
theorem dL_hangs_260 : decode cL_hangs 260 = .ok (.iload 4, 2) := by decide +kernel
theorem dL_hangs_262 : decode cL_hangs 262 = .ok (.ifCond .eq 99, 3) := by decide +kernel
theorem dL_hangs_265 : decode cL_hangs 265 = .ok (.aload_n 0, 1) := by decide +kernel
theorem dL_hangs_266 : decode cL_hangs 266 = .ok (.iload 14, 2) := by decide +kernel
theorem dL_hangs_268 : decode cL_hangs 268 = .ok (.invokestatic 112, 3) := by decide +kernel
theorem dL_hangs_271 : decode cL_hangs 271 = .ok (.istore 15, 2) := by decide +kernel
theorem dL_hangs_273 : decode cL_hangs 273 = .ok (.iload 15, 2) := by decide +kernel
theorem dL_hangs_275 : decode cL_hangs 275 = .ok (.ifCond .lt 23, 3) := by decide +kernel
theorem dL_hangs_278 : decode cL_hangs 278 = .ok (.iload 15, 2) := by decide +kernel
theorem dL_hangs_280 : decode cL_hangs 280 = .ok (.bipush 6, 2) := by decide +kernel
theorem dL_hangs_282 : decode cL_hangs 282 = .ok (.if_icmp .ge 16, 3) := by decide +kernel
theorem dL_hangs_285 : decode cL_hangs 285 = .ok (.aload_n 0, 1) := by decide +kernel
theorem dL_hangs_286 : decode cL_hangs 286 = .ok (.iload 14, 2) := by decide +kernel
theorem dL_hangs_288 : decode cL_hangs 288 = .ok (.invokestatic 114, 3) := by decide +kernel
theorem dL_hangs_291 : decode cL_hangs 291 = .ok (.ifCond .le 7, 3) := by decide +kernel
theorem dL_hangs_294 : decode cL_hangs 294 = .ok (.iconst 1, 1) := by decide +kernel
theorem dL_hangs_295 : decode cL_hangs 295 = .ok (.goto 4, 3) := by decide +kernel
theorem dL_hangs_298 : decode cL_hangs 298 = .ok (.iconst 0, 1) := by decide +kernel
theorem dL_hangs_299 : decode cL_hangs 299 = .ok (.istore 4, 2) := by decide +kernel
theorem dL_hangs_301 : decode cL_hangs 301 = .ok (.iload 10, 2) := by decide +kernel
theorem dL_hangs_303 : decode cL_hangs 303 = .ok (.aload_n 0, 1) := by decide +kernel
theorem dL_hangs_304 : decode cL_hangs 304 = .ok (.iload 14, 2) := by decide +kernel
theorem dL_hangs_306 : decode cL_hangs 306 = .ok (.invokestatic 114, 3) := by decide +kernel
theorem dL_hangs_309 : decode cL_hangs 309 = .ok (.iadd, 1) := by decide +kernel
theorem dL_hangs_310 : decode cL_hangs 310 = .ok (.istore 10, 2) := by decide +kernel
theorem dL_hangs_312 : decode cL_hangs 312 = .ok (.iload 11, 2) := by decide +kernel
theorem dL_hangs_314 : decode cL_hangs 314 = .ok (.iload 15, 2) := by decide +kernel
theorem dL_hangs_316 : decode cL_hangs 316 = .ok (.iconst 1, 1) := by decide +kernel
theorem dL_hangs_317 : decode cL_hangs 317 = .ok (.ishr, 1) := by decide +kernel
theorem dL_hangs_318 : decode cL_hangs 318 = .ok (.iconst 1, 1) := by decide +kernel
theorem dL_hangs_319 : decode cL_hangs 319 = .ok (.iand, 1) := by decide +kernel
theorem dL_hangs_320 : decode cL_hangs 320 = .ok (.iadd, 1) := by decide +kernel
theorem dL_hangs_321 : decode cL_hangs 321 = .ok (.istore 11, 2) := by decide +kernel
theorem dL_hangs_323 : decode cL_hangs 323 = .ok (.iload 12, 2) := by decide +kernel
theorem dL_hangs_325 : decode cL_hangs 325 = .ok (.iload 15, 2) := by decide +kernel
theorem dL_hangs_327 : decode cL_hangs 327 = .ok (.iconst 2, 1) := by decide +kernel
theorem dL_hangs_328 : decode cL_hangs 328 = .ok (.ishr, 1) := by decide +kernel
theorem dL_hangs_329 : decode cL_hangs 329 = .ok (.iconst 1, 1) := by decide +kernel
theorem dL_hangs_330 : decode cL_hangs 330 = .ok (.iand, 1) := by decide +kernel
theorem dL_hangs_331 : decode cL_hangs 331 = .ok (.iadd, 1) := by decide +kernel
theorem dL_hangs_332 : decode cL_hangs 332 = .ok (.istore 12, 2) := by decide +kernel
theorem dL_hangs_334 : decode cL_hangs 334 = .ok (.iload 13, 2) := by decide +kernel
theorem dL_hangs_336 : decode cL_hangs 336 = .ok (.iload 15, 2) := by decide +kernel
theorem dL_hangs_338 : decode cL_hangs 338 = .ok (.ifCond .eq 9, 3) := by decide +kernel
theorem dL_hangs_341 : decode cL_hangs 341 = .ok (.iload 15, 2) := by decide +kernel
theorem dL_hangs_343 : decode cL_hangs 343 = .ok (.iconst 2, 1) := by decide +kernel
theorem dL_hangs_344 : decode cL_hangs 344 = .ok (.if_icmp .ne 7, 3) := by decide +kernel
theorem dL_hangs_347 : decode cL_hangs 347 = .ok (.iconst 1, 1) := by decide +kernel
theorem dL_hangs_348 : decode cL_hangs 348 = .ok (.goto 4, 3) := by decide +kernel
theorem dL_hangs_351 : decode cL_hangs 351 = .ok (.iconst 0, 1) := by decide +kernel
theorem dL_hangs_352 : decode cL_hangs 352 = .ok (.iadd, 1) := by decide +kernel
theorem dL_hangs_353 : decode cL_hangs 353 = .ok (.istore 13, 2) := by decide +kernel
theorem dL_hangs_355 : decode cL_hangs 355 = .ok (.iinc 14 1, 3) := by decide +kernel
theorem dL_hangs_358 : decode cL_hangs 358 = .ok (.goto (-104), 3) := by decide +kernel
theorem dL_hangs_361 : decode cL_hangs 361 = .ok (.iconst 0, 1) := by decide +kernel
theorem dL_hangs_362 : decode cL_hangs 362 = .ok (.istore 14, 2) := by decide +kernel
theorem dL_hangs_364 : decode cL_hangs 364 = .ok (.iconst 0, 1) := by decide +kernel
theorem dL_hangs_365 : decode cL_hangs 365 = .ok (.istore 15, 2) := by decide +kernel
theorem dL_hangs_367 : decode cL_hangs 367 = .ok (.iload 15, 2) := by decide +kernel
theorem dL_hangs_369 : decode cL_hangs 369 = .ok (.aload_n 0, 1) := by decide +kernel
theorem dL_hangs_370 : decode cL_hangs 370 = .ok (.invokevirtual 107, 3) := by decide +kernel
theorem dL_hangs_373 : decode cL_hangs 373 = .ok (.if_icmp .ge 25, 3) := by decide +kernel
theorem dL_hangs_376 : decode cL_hangs 376 = .ok (.iload 4, 2) := by decide +kernel
theorem dL_hangs_378 : decode cL_hangs 378 = .ok (.ifCond .eq 20, 3) := by decide +kernel
theorem dL_hangs_381 : decode cL_hangs 381 = .ok (.iload 14, 2) := by decide +kernel
theorem dL_hangs_383 : decode cL_hangs 383 = .ok (.aload_n 0, 1) := by decide +kernel
theorem dL_hangs_384 : decode cL_hangs 384 = .ok (.iload 15, 2) := by decide +kernel
theorem dL_hangs_386 : decode cL_hangs 386 = .ok (.invokestatic 116, 3) := by decide +kernel
theorem dL_hangs_389 : decode cL_hangs 389 = .ok (.iadd, 1) := by decide +kernel
theorem dL_hangs_390 : decode cL_hangs 390 = .ok (.istore 14, 2) := by decide +kernel
theorem dL_hangs_392 : decode cL_hangs 392 = .ok (.iinc 15 1, 3) := by decide +kernel
theorem dL_hangs_395 : decode cL_hangs 395 = .ok (.goto (-28), 3) := by decide +kernel
theorem dL_hangs_398 : decode cL_hangs 398 = .ok (.iconst 0, 1) := by decide +kernel
theorem dL_hangs_399 : decode cL_hangs 399 = .ok (.istore 15, 2) := by decide +kernel
theorem dL_hangs_401 : decode cL_hangs 401 = .ok (.iload 15, 2) := by decide +kernel
theorem dL_hangs_403 : decode cL_hangs 403 = .ok (.iload_n 2, 1) := by decide +kernel
theorem dL_hangs_404 : decode cL_hangs 404 = .ok (.if_icmp .ge 50, 3) := by decide +kernel
theorem dL_hangs_407 : decode cL_hangs 407 = .ok (.iload 4, 2) := by decide +kernel
theorem dL_hangs_409 : decode cL_hangs 409 = .ok (.ifCond .eq 45, 3) := by decide +kernel
theorem dL_hangs_412 : decode cL_hangs 412 = .ok (.aload_n 0, 1) := by decide +kernel
theorem dL_hangs_413 : decode cL_hangs 413 = .ok (.iload 15, 2) := by decide +kernel
theorem dL_hangs_415 : decode cL_hangs 415 = .ok (.invokestatic 118, 3) := by decide +kernel
theorem dL_hangs_418 : decode cL_hangs 418 = .ok (.istore 16, 2) := by decide +kernel
theorem dL_hangs_420 : decode cL_hangs 420 = .ok (.iload 16, 2) := by decide +kernel
theorem dL_hangs_422 : decode cL_hangs 422 = .ok (.bipush 10, 2) := by decide +kernel
theorem dL_hangs_424 : decode cL_hangs 424 = .ok (.if_icmp .eq 17, 3) := by decide +kernel
theorem dL_hangs_427 : decode cL_hangs 427 = .ok (.iload 16, 2) := by decide +kernel
theorem dL_hangs_429 : decode cL_hangs 429 = .ok (.bipush 32, 2) := by decide +kernel
theorem dL_hangs_431 : decode cL_hangs 431 = .ok (.if_icmp .lt 14, 3) := by decide +kernel
theorem dL_hangs_434 : decode cL_hangs 434 = .ok (.iload 16, 2) := by decide +kernel
theorem dL_hangs_436 : decode cL_hangs 436 = .ok (.bipush 123, 2) := by decide +kernel
theorem dL_hangs_438 : decode cL_hangs 438 = .ok (.if_icmp .ge 7, 3) := by decide +kernel
theorem dL_hangs_441 : decode cL_hangs 441 = .ok (.iconst 1, 1) := by decide +kernel
theorem dL_hangs_442 : decode cL_hangs 442 = .ok (.goto 4, 3) := by decide +kernel
theorem dL_hangs_445 : decode cL_hangs 445 = .ok (.iconst 0, 1) := by decide +kernel
theorem dL_hangs_446 : decode cL_hangs 446 = .ok (.istore 4, 2) := by decide +kernel
theorem dL_hangs_448 : decode cL_hangs 448 = .ok (.iinc 15 1, 3) := by decide +kernel
theorem dL_hangs_451 : decode cL_hangs 451 = .ok (.goto (-50), 3) := by decide +kernel
theorem dL_hangs_454 : decode cL_hangs 454 = .ok (.iload 4, 2) := by decide +kernel
theorem dL_hangs_456 : decode cL_hangs 456 = .ok (.ifCond .eq 132, 3) := by decide +kernel
theorem dL_hangs_459 : decode cL_hangs 459 = .ok (.iload 5, 2) := by decide +kernel
theorem dL_hangs_461 : decode cL_hangs 461 = .ok (.iload 10, 2) := by decide +kernel
theorem dL_hangs_463 : decode cL_hangs 463 = .ok (.if_icmp .ne 125, 3) := by decide +kernel
theorem dL_hangs_466 : decode cL_hangs 466 = .ok (.iload 5, 2) := by decide +kernel
theorem dL_hangs_468 : decode cL_hangs 468 = .ok (.iload 6, 2) := by decide +kernel
theorem dL_hangs_470 : decode cL_hangs 470 = .ok (.iadd, 1) := by decide +kernel
theorem dL_hangs_471 : decode cL_hangs 471 = .ok (.iload_n 2, 1) := by decide +kernel
theorem dL_hangs_472 : decode cL_hangs 472 = .ok (.if_icmp .ne 116, 3) := by decide +kernel
theorem dL_hangs_475 : decode cL_hangs 475 = .ok (.iload 8, 2) := by decide +kernel
theorem dL_hangs_477 : decode cL_hangs 477 = .ok (.iload_n 3, 1) := by decide +kernel
theorem dL_hangs_478 : decode cL_hangs 478 = .ok (.if_icmp .ne 110, 3) := by decide +kernel
theorem dL_hangs_481 : decode cL_hangs 481 = .ok (.aload_n 0, 1) := by decide +kernel
theorem dL_hangs_482 : decode cL_hangs 482 = .ok (.invokevirtual 120, 3) := by decide +kernel
theorem dL_hangs_485 : decode cL_hangs 485 = .ok (.aload_n 0, 1) := by decide +kernel
theorem dL_hangs_486 : decode cL_hangs 486 = .ok (.invokevirtual 123, 3) := by decide +kernel
theorem dL_hangs_489 : decode cL_hangs 489 = .ok (.iadd, 1) := by decide +kernel
theorem dL_hangs_490 : decode cL_hangs 490 = .ok (.iload 7, 2) := by decide +kernel
theorem dL_hangs_492 : decode cL_hangs 492 = .ok (.if_icmp .ne 96, 3) := by decide +kernel
theorem dL_hangs_495 : decode cL_hangs 495 = .ok (.iload 11, 2) := by decide +kernel
theorem dL_hangs_497 : decode cL_hangs 497 = .ok (.aload_n 0, 1) := by decide +kernel
theorem dL_hangs_498 : decode cL_hangs 498 = .ok (.invokevirtual 126, 3) := by decide +kernel
theorem dL_hangs_501 : decode cL_hangs 501 = .ok (.if_icmp .ne 87, 3) := by decide +kernel
theorem dL_hangs_504 : decode cL_hangs 504 = .ok (.iload 12, 2) := by decide +kernel
theorem dL_hangs_506 : decode cL_hangs 506 = .ok (.aload_n 0, 1) := by decide +kernel
theorem dL_hangs_507 : decode cL_hangs 507 = .ok (.invokevirtual 129, 3) := by decide +kernel
theorem dL_hangs_510 : decode cL_hangs 510 = .ok (.if_icmp .ne 78, 3) := by decide +kernel
theorem dL_hangs_513 : decode cL_hangs 513 = .ok (.iload 14, 2) := by decide +kernel
theorem dL_hangs_515 : decode cL_hangs 515 = .ok (.iload 13, 2) := by decide +kernel
theorem dL_hangs_517 : decode cL_hangs 517 = .ok (.if_icmp .ne 71, 3) := by decide +kernel
theorem dL_hangs_520 : decode cL_hangs 520 = .ok (.aload_n 0, 1) := by decide +kernel
theorem dL_hangs_521 : decode cL_hangs 521 = .ok (.iload_n 2, 1) := by decide +kernel
theorem dL_hangs_522 : decode cL_hangs 522 = .ok (.invokestatic 118, 3) := by decide +kernel
theorem dL_hangs_525 : decode cL_hangs 525 = .ok (.bipush (-2), 2) := by decide +kernel
theorem dL_hangs_527 : decode cL_hangs 527 = .ok (.if_icmp .ne 61, 3) := by decide +kernel
theorem dL_hangs_530 : decode cL_hangs 530 = .ok (.aload_n 0, 1) := by decide +kernel
theorem dL_hangs_531 : decode cL_hangs 531 = .ok (.iconst (-1), 1) := by decide +kernel
theorem dL_hangs_532 : decode cL_hangs 532 = .ok (.invokestatic 118, 3) := by decide +kernel
theorem dL_hangs_535 : decode cL_hangs 535 = .ok (.bipush (-2), 2) := by decide +kernel
theorem dL_hangs_537 : decode cL_hangs 537 = .ok (.if_icmp .ne 51, 3) := by decide +kernel
theorem dL_hangs_540 : decode cL_hangs 540 = .ok (.aload_n 0, 1) := by decide +kernel
theorem dL_hangs_541 : decode cL_hangs 541 = .ok (.iload_n 3, 1) := by decide +kernel
theorem dL_hangs_542 : decode cL_hangs 542 = .ok (.invokestatic 114, 3) := by decide +kernel
theorem dL_hangs_545 : decode cL_hangs 545 = .ok (.bipush (-2), 2) := by decide +kernel
theorem dL_hangs_547 : decode cL_hangs 547 = .ok (.if_icmp .ne 41, 3) := by decide +kernel
theorem dL_hangs_550 : decode cL_hangs 550 = .ok (.aload_n 0, 1) := by decide +kernel
theorem dL_hangs_551 : decode cL_hangs 551 = .ok (.iconst (-1), 1) := by decide +kernel
theorem dL_hangs_552 : decode cL_hangs 552 = .ok (.invokestatic 110, 3) := by decide +kernel
theorem dL_hangs_555 : decode cL_hangs 555 = .ok (.bipush (-2), 2) := by decide +kernel
theorem dL_hangs_557 : decode cL_hangs 557 = .ok (.if_icmp .ne 31, 3) := by decide +kernel
theorem dL_hangs_560 : decode cL_hangs 560 = .ok (.aload_n 0, 1) := by decide +kernel
theorem dL_hangs_561 : decode cL_hangs 561 = .ok (.invokevirtual 132, 3) := by decide +kernel
theorem dL_hangs_564 : decode cL_hangs 564 = .ok (.iload_n 3, 1) := by decide +kernel
theorem dL_hangs_565 : decode cL_hangs 565 = .ok (.ifCond .ne 7, 3) := by decide +kernel
theorem dL_hangs_568 : decode cL_hangs 568 = .ok (.dconst 1, 1) := by decide +kernel
theorem dL_hangs_569 : decode cL_hangs 569 = .ok (.goto 11, 3) := by decide +kernel
theorem dL_hangs_572 : decode cL_hangs 572 = .ok (.iload_n 3, 1) := by decide +kernel
theorem dL_hangs_573 : decode cL_hangs 573 = .ok (.iload 12, 2) := by decide +kernel
theorem dL_hangs_575 : decode cL_hangs 575 = .ok (.isub, 1) := by decide +kernel
theorem dL_hangs_576 : decode cL_hangs 576 = .ok (.i2d, 1) := by decide +kernel
theorem dL_hangs_577 : decode cL_hangs 577 = .ok (.iload_n 3, 1) := by decide +kernel
theorem dL_hangs_578 : decode cL_hangs 578 = .ok (.i2d, 1) := by decide +kernel
theorem dL_hangs_579 : decode cL_hangs 579 = .ok (.ddiv, 1) := by decide +kernel
theorem dL_hangs_580 : decode cL_hangs 580 = .ok (.dcmp .l, 1) := by decide +kernel
theorem dL_hangs_581 : decode cL_hangs 581 = .ok (.ifCond .ne 7, 3) := by decide +kernel
theorem dL_hangs_584 : decode cL_hangs 584 = .ok (.iconst 1, 1) := by decide +kernel
theorem dL_hangs_585 : decode cL_hangs 585 = .ok (.goto 4, 3) := by decide +kernel
theorem dL_hangs_588 : decode cL_hangs 588 = .ok (.iconst 0, 1) := by decide +kernel
theorem dL_hangs_589 : decode cL_hangs 589 = .ok (.istore 4, 2) := by decide +kernel
theorem dL_hangs_591 : decode cL_hangs 591 = .ok (.aload_n 0, 1) := by decide +kernel
theorem dL_hangs_592 : decode cL_hangs 592 = .ok (.invokevirtual 136, 3) := by decide +kernel
theorem dL_hangs_595 : decode cL_hangs 595 = .ok (.istore 15, 2) := by decide +kernel
theorem dL_hangs_597 : decode cL_hangs 597 = .ok (.iload 4, 2) := by decide +kernel
theorem dL_hangs_599 : decode cL_hangs 599 = .ok (.ifCond .eq 59, 3) := by decide +kernel
theorem dL_hangs_602 : decode cL_hangs 602 = .ok (.iload 15, 2) := by decide +kernel
theorem dL_hangs_604 : decode cL_hangs 604 = .ok (.iconst (-1), 1) := by decide +kernel
theorem dL_hangs_605 : decode cL_hangs 605 = .ok (.if_icmp .eq 38, 3) := by decide +kernel
theorem dL_hangs_608 : decode cL_hangs 608 = .ok (.iload 15, 2) := by decide +kernel
theorem dL_hangs_610 : decode cL_hangs 610 = .ok (.ifCond .lt 48, 3) := by decide +kernel
theorem dL_hangs_613 : decode cL_hangs 613 = .ok (.iload 15, 2) := by decide +kernel
theorem dL_hangs_615 : decode cL_hangs 615 = .ok (.iconst 2, 1) := by decide +kernel
theorem dL_hangs_616 : decode cL_hangs 616 = .ok (.iload_n 1, 1) := by decide +kernel
theorem dL_hangs_617 : decode cL_hangs 617 = .ok (.imul, 1) := by decide +kernel
theorem dL_hangs_618 : decode cL_hangs 618 = .ok (.iconst 2, 1) := by decide +kernel
theorem dL_hangs_619 : decode cL_hangs 619 = .ok (.iadd, 1) := by decide +kernel
theorem dL_hangs_620 : decode cL_hangs 620 = .ok (.if_icmp .ge 38, 3) := by decide +kernel
theorem dL_hangs_623 : decode cL_hangs 623 = .ok (.aload_n 0, 1) := by decide +kernel
theorem dL_hangs_624 : decode cL_hangs 624 = .ok (.iload 15, 2) := by decide +kernel
theorem dL_hangs_626 : decode cL_hangs 626 = .ok (.iconst 2, 1) := by decide +kernel
theorem dL_hangs_627 : decode cL_hangs 627 = .ok (.idiv, 1) := by decide +kernel
theorem dL_hangs_628 : decode cL_hangs 628 = .ok (.bipush 30, 2) := by decide +kernel
theorem dL_hangs_630 : decode cL_hangs 630 = .ok (.iload 15, 2) := by decide +kernel
theorem dL_hangs_632 : decode cL_hangs 632 = .ok (.iconst 2, 1) := by decide +kernel
theorem dL_hangs_633 : decode cL_hangs 633 = .ok (.irem, 1) := by decide +kernel
theorem dL_hangs_634 : decode cL_hangs 634 = .ok (.iadd, 1) := by decide +kernel
theorem dL_hangs_635 : decode cL_hangs 635 = .ok (.invokestatic 139, 3) := by decide +kernel
theorem dL_hangs_638 : decode cL_hangs 638 = .ok (.iload 12, 2) := by decide +kernel
theorem dL_hangs_640 : decode cL_hangs 640 = .ok (.if_icmp .ge 18, 3) := by decide +kernel
theorem dL_hangs_643 : decode cL_hangs 643 = .ok (.iload 12, 2) := by decide +kernel
theorem dL_hangs_645 : decode cL_hangs 645 = .ok (.ifCond .gt 9, 3) := by decide +kernel
theorem dL_hangs_648 : decode cL_hangs 648 = .ok (.iload 15, 2) := by decide +kernel
theorem dL_hangs_650 : decode cL_hangs 650 = .ok (.iconst (-1), 1) := by decide +kernel
theorem dL_hangs_651 : decode cL_hangs 651 = .ok (.if_icmp .ne 7, 3) := by decide +kernel
theorem dL_hangs_654 : decode cL_hangs 654 = .ok (.iconst 1, 1) := by decide +kernel
theorem dL_hangs_655 : decode cL_hangs 655 = .ok (.goto 4, 3) := by decide +kernel
theorem dL_hangs_658 : decode cL_hangs 658 = .ok (.iconst 0, 1) := by decide +kernel
theorem dL_hangs_659 : decode cL_hangs 659 = .ok (.istore 4, 2) := by decide +kernel
theorem dL_hangs_661 : decode cL_hangs 661 = .ok (.iload 4, 2) := by decide +kernel
theorem dL_hangs_663 : decode cL_hangs 663 = .ok (.ifCond .eq 73, 3) := by decide +kernel
theorem dL_hangs_666 : decode cL_hangs 666 = .ok (.aload_n 0, 1) := by decide +kernel
theorem dL_hangs_667 : decode cL_hangs 667 = .ok (.invokevirtual 141, 3) := by decide +kernel
theorem dL_hangs_670 : decode cL_hangs 670 = .ok (.ifCond .lt 66, 3) := by decide +kernel
theorem dL_hangs_673 : decode cL_hangs 673 = .ok (.aload_n 0, 1) := by decide +kernel
theorem dL_hangs_674 : decode cL_hangs 674 = .ok (.invokevirtual 144, 3) := by decide +kernel
theorem dL_hangs_677 : decode cL_hangs 677 = .ok (.ifCond .lt 59, 3) := by decide +kernel
theorem dL_hangs_680 : decode cL_hangs 680 = .ok (.aload_n 0, 1) := by decide +kernel
theorem dL_hangs_681 : decode cL_hangs 681 = .ok (.invokevirtual 144, 3) := by decide +kernel
theorem dL_hangs_684 : decode cL_hangs 684 = .ok (.sipush 200, 3) := by decide +kernel
theorem dL_hangs_687 : decode cL_hangs 687 = .ok (.if_icmp .gt 49, 3) := by decide +kernel
theorem dL_hangs_690 : decode cL_hangs 690 = .ok (.aload_n 0, 1) := by decide +kernel
theorem dL_hangs_691 : decode cL_hangs 691 = .ok (.invokevirtual 147, 3) := by decide +kernel
theorem dL_hangs_694 : decode cL_hangs 694 = .ok (.ifCond .eq 11, 3) := by decide +kernel
theorem dL_hangs_697 : decode cL_hangs 697 = .ok (.aload_n 0, 1) := by decide +kernel
theorem dL_hangs_698 : decode cL_hangs 698 = .ok (.invokevirtual 147, 3) := by decide +kernel
theorem dL_hangs_701 : decode cL_hangs 701 = .ok (.iconst 1, 1) := by decide +kernel
theorem dL_hangs_702 : decode cL_hangs 702 = .ok (.if_icmp .ne 34, 3) := by decide +kernel
theorem dL_hangs_705 : decode cL_hangs 705 = .ok (.aload_n 0, 1) := by decide +kernel
theorem dL_hangs_706 : decode cL_hangs 706 = .ok (.invokevirtual 150, 3) := by decide +kernel
theorem dL_hangs_709 : decode cL_hangs 709 = .ok (.ifCond .eq 11, 3) := by decide +kernel
theorem dL_hangs_712 : decode cL_hangs 712 = .ok (.aload_n 0, 1) := by decide +kernel
theorem dL_hangs_713 : decode cL_hangs 713 = .ok (.invokevirtual 150, 3) := by decide +kernel
theorem dL_hangs_716 : decode cL_hangs 716 = .ok (.iconst 1, 1) := by decide +kernel
theorem dL_hangs_717 : decode cL_hangs 717 = .ok (.if_icmp .ne 19, 3) := by decide +kernel
theorem dL_hangs_720 : decode cL_hangs 720 = .ok (.aload_n 0, 1) := by decide +kernel
theorem dL_hangs_721 : decode cL_hangs 721 = .ok (.iload_n 1, 1) := by decide +kernel
theorem dL_hangs_722 : decode cL_hangs 722 = .ok (.bipush 30, 2) := by decide +kernel
theorem dL_hangs_724 : decode cL_hangs 724 = .ok (.invokestatic 139, 3) := by decide +kernel
theorem dL_hangs_727 : decode cL_hangs 727 = .ok (.iload 12, 2) := by decide +kernel
theorem dL_hangs_729 : decode cL_hangs 729 = .ok (.if_icmp .ne 7, 3) := by decide +kernel
theorem dL_hangs_732 : decode cL_hangs 732 = .ok (.iconst 1, 1) := by decide +kernel
theorem dL_hangs_733 : decode cL_hangs 733 = .ok (.goto 4, 3) := by decide +kernel
theorem dL_hangs_736 : decode cL_hangs 736 = .ok (.iconst 0, 1) := by decide +kernel
theorem dL_hangs_737 : decode cL_hangs 737 = .ok (.ireturn, 1) := by decide +kernel
theorem dL_refuses_0 : decode cL_refuses 0 = .ok (.aload_n 0, 1) := by decide +kernel
theorem dL_refuses_1 : decode cL_refuses 1 = .ok (.invokevirtual 80, 3) := by decide +kernel
theorem dL_refuses_4 : decode cL_refuses 4 = .ok (.istore_n 2, 1) := by decide +kernel
theorem dL_refuses_5 : decode cL_refuses 5 = .ok (.iload_n 2, 1) := by decide +kernel
theorem dL_refuses_6 : decode cL_refuses 6 = .ok (.ifCond .lt 241, 3) := by decide +kernel
theorem dL_refuses_9 : decode cL_refuses 9 = .ok (.aload_n 0, 1) := by decide +kernel
theorem dL_refuses_10 : decode cL_refuses 10 = .ok (.invokestatic 93, 3) := by decide +kernel
theorem dL_refuses_13 : decode cL_refuses 13 = .ok (.bipush (-2), 2) := by decide +kernel
theorem dL_refuses_15 : decode cL_refuses 15 = .ok (.if_icmp .ne 232, 3) := by decide +kernel
theorem dL_refuses_18 : decode cL_refuses 18 = .ok (.aload_n 0, 1) := by decide +kernel
theorem dL_refuses_19 : decode cL_refuses 19 = .ok (.invokestatic 86, 3) := by decide +kernel
theorem dL_refuses_22 : decode cL_refuses 22 = .ok (.bipush (-2), 2) := by decide +kernel
theorem dL_refuses_24 : decode cL_refuses 24 = .ok (.if_icmp .ne 223, 3) := by decide +kernel
theorem dL_refuses_27 : decode cL_refuses 27 = .ok (.aload_n 0, 1) := by decide +kernel
theorem dL_refuses_28 : decode cL_refuses 28 = .ok (.sipush 200, 3) := by decide +kernel
theorem dL_refuses_31 : decode cL_refuses 31 = .ok (.iload_n 1, 1) := by decide +kernel
theorem dL_refuses_32 : decode cL_refuses 32 = .ok (.iadd, 1) := by decide +kernel
theorem dL_refuses_33 : decode cL_refuses 33 = .ok (.iconst 0, 1) := by decide +kernel
theorem dL_refuses_34 : decode cL_refuses 34 = .ok (.invokestatic 77, 3) := by decide +kernel
theorem dL_refuses_37 : decode cL_refuses 37 = .ok (.bipush (-3), 2) := by decide +kernel
theorem dL_refuses_39 : decode cL_refuses 39 = .ok (.if_icmp .ne 208, 3) := by decide +kernel
theorem dL_refuses_42 : decode cL_refuses 42 = .ok (.aload_n 0, 1) := by decide +kernel
theorem dL_refuses_43 : decode cL_refuses 43 = .ok (.iconst (-1), 1) := by decide +kernel
theorem dL_refuses_44 : decode cL_refuses 44 = .ok (.iload_n 1, 1) := by decide +kernel
theorem dL_refuses_45 : decode cL_refuses 45 = .ok (.isub, 1) := by decide +kernel
theorem dL_refuses_46 : decode cL_refuses 46 = .ok (.bipush 9, 2) := by decide +kernel
theorem dL_refuses_48 : decode cL_refuses 48 = .ok (.invokestatic 77, 3) := by decide +kernel
theorem dL_refuses_51 : decode cL_refuses 51 = .ok (.bipush (-3), 2) := by decide +kernel
theorem dL_refuses_53 : decode cL_refuses 53 = .ok (.if_icmp .ne 194, 3) := by decide +kernel
theorem dL_refuses_56 : decode cL_refuses 56 = .ok (.aload_n 0, 1) := by decide +kernel
theorem dL_refuses_57 : decode cL_refuses 57 = .ok (.iconst 0, 1) := by decide +kernel
theorem dL_refuses_58 : decode cL_refuses 58 = .ok (.bipush 6, 2) := by decide +kernel
theorem dL_refuses_60 : decode cL_refuses 60 = .ok (.iload_n 1, 1) := by decide +kernel
theorem dL_refuses_61 : decode cL_refuses 61 = .ok (.iadd, 1) := by decide +kernel
theorem dL_refuses_62 : decode cL_refuses 62 = .ok (.invokestatic 77, 3) := by decide +kernel
theorem dL_refuses_65 : decode cL_refuses 65 = .ok (.bipush (-2), 2) := by decide +kernel
theorem dL_refuses_67 : decode cL_refuses 67 = .ok (.if_icmp .ne 180, 3) := by decide +kernel
theorem dL_refuses_70 : decode cL_refuses 70 = .ok (.aload_n 0, 1) := by decide +kernel
theorem dL_refuses_71 : decode cL_refuses 71 = .ok (.iconst 0, 1) := by decide +kernel
theorem dL_refuses_72 : decode cL_refuses 72 = .ok (.bipush (-2), 2) := by decide +kernel
theorem dL_refuses_74 : decode cL_refuses 74 = .ok (.iload_n 1, 1) := by decide +kernel
theorem dL_refuses_75 : decode cL_refuses 75 = .ok (.isub, 1) := by decide +kernel
theorem dL_refuses_76 : decode cL_refuses 76 = .ok (.invokestatic 77, 3) := by decide +kernel
theorem dL_refuses_79 : decode cL_refuses 79 = .ok (.bipush (-2), 2) := by decide +kernel
theorem dL_refuses_81 : decode cL_refuses 81 = .ok (.if_icmp .ne 166, 3) := by decide +kernel
theorem dL_refuses_84 : decode cL_refuses 84 = .ok (.aload_n 0, 1) := by decide +kernel
theorem dL_refuses_85 : decode cL_refuses 85 = .ok (.bipush 20, 2) := by decide +kernel
theorem dL_refuses_87 : decode cL_refuses 87 = .ok (.iload_n 1, 1) := by decide +kernel
theorem dL_refuses_88 : decode cL_refuses 88 = .ok (.iadd, 1) := by decide +kernel
theorem dL_refuses_89 : decode cL_refuses 89 = .ok (.invokestatic 89, 3) := by decide +kernel
theorem dL_refuses_92 : decode cL_refuses 92 = .ok (.bipush (-2), 2) := by decide +kernel
theorem dL_refuses_94 : decode cL_refuses 94 = .ok (.if_icmp .ne 153, 3) := by decide +kernel
theorem dL_refuses_97 : decode cL_refuses 97 = .ok (.aload_n 0, 1) := by decide +kernel
theorem dL_refuses_98 : decode cL_refuses 98 = .ok (.iconst (-1), 1) := by decide +kernel
theorem dL_refuses_99 : decode cL_refuses 99 = .ok (.iload_n 1, 1) := by decide +kernel
theorem dL_refuses_100 : decode cL_refuses 100 = .ok (.isub, 1) := by decide +kernel
theorem dL_refuses_101 : decode cL_refuses 101 = .ok (.invokestatic 89, 3) := by decide +kernel
theorem dL_refuses_104 : decode cL_refuses 104 = .ok (.bipush (-2), 2) := by decide +kernel
theorem dL_refuses_106 : decode cL_refuses 106 = .ok (.if_icmp .ne 141, 3) := by decide +kernel
theorem dL_refuses_109 : decode cL_refuses 109 = .ok (.aload_n 0, 1) := by decide +kernel
theorem dL_refuses_110 : decode cL_refuses 110 = .ok (.aload_n 0, 1) := by decide +kernel
theorem dL_refuses_111 : decode cL_refuses 111 = .ok (.invokevirtual 104, 3) := by decide +kernel
theorem dL_refuses_114 : decode cL_refuses 114 = .ok (.iload_n 1, 1) := by decide +kernel
theorem dL_refuses_115 : decode cL_refuses 115 = .ok (.iadd, 1) := by decide +kernel
theorem dL_refuses_116 : decode cL_refuses 116 = .ok (.invokestatic 153, 3) := by decide +kernel
theorem dL_refuses_119 : decode cL_refuses 119 = .ok (.bipush (-2), 2) := by decide +kernel
theorem dL_refuses_121 : decode cL_refuses 121 = .ok (.if_icmp .ne 126, 3) := by decide +kernel
theorem dL_refuses_124 : decode cL_refuses 124 = .ok (.aload_n 0, 1) := by decide +kernel
theorem dL_refuses_125 : decode cL_refuses 125 = .ok (.aload_n 0, 1) := by decide +kernel
theorem dL_refuses_126 : decode cL_refuses 126 = .ok (.invokevirtual 95, 3) := by decide +kernel
theorem dL_refuses_129 : decode cL_refuses 129 = .ok (.iload_n 1, 1) := by decide +kernel
theorem dL_refuses_130 : decode cL_refuses 130 = .ok (.iadd, 1) := by decide +kernel
theorem dL_refuses_131 : decode cL_refuses 131 = .ok (.invokestatic 110, 3) := by decide +kernel
theorem dL_refuses_134 : decode cL_refuses 134 = .ok (.bipush (-2), 2) := by decide +kernel
theorem dL_refuses_136 : decode cL_refuses 136 = .ok (.if_icmp .ne 111, 3) := by decide +kernel
theorem dL_refuses_139 : decode cL_refuses 139 = .ok (.aload_n 0, 1) := by decide +kernel
theorem dL_refuses_140 : decode cL_refuses 140 = .ok (.bipush 20, 2) := by decide +kernel
theorem dL_refuses_142 : decode cL_refuses 142 = .ok (.iload_n 1, 1) := by decide +kernel
theorem dL_refuses_143 : decode cL_refuses 143 = .ok (.iadd, 1) := by decide +kernel
theorem dL_refuses_144 : decode cL_refuses 144 = .ok (.iconst 0, 1) := by decide +kernel
theorem dL_refuses_145 : decode cL_refuses 145 = .ok (.invokestatic 155, 3) := by decide +kernel
theorem dL_refuses_148 : decode cL_refuses 148 = .ok (.bipush (-2), 2) := by decide +kernel
theorem dL_refuses_150 : decode cL_refuses 150 = .ok (.if_icmp .ne 97, 3) := by decide +kernel
theorem dL_refuses_153 : decode cL_refuses 153 = .ok (.aload_n 0, 1) := by decide +kernel
theorem dL_refuses_154 : decode cL_refuses 154 = .ok (.iconst (-1), 1) := by decide +kernel
theorem dL_refuses_155 : decode cL_refuses 155 = .ok (.iload_n 1, 1) := by decide +kernel
theorem dL_refuses_156 : decode cL_refuses 156 = .ok (.isub, 1) := by decide +kernel
theorem dL_refuses_157 : decode cL_refuses 157 = .ok (.invokestatic 116, 3) := by decide +kernel
theorem dL_refuses_160 : decode cL_refuses 160 = .ok (.bipush (-2), 2) := by decide +kernel
theorem dL_refuses_162 : decode cL_refuses 162 = .ok (.if_icmp .ne 85, 3) := by decide +kernel
theorem dL_refuses_165 : decode cL_refuses 165 = .ok (.aload_n 0, 1) := by decide +kernel
theorem dL_refuses_166 : decode cL_refuses 166 = .ok (.aload_n 0, 1) := by decide +kernel
theorem dL_refuses_167 : decode cL_refuses 167 = .ok (.invokevirtual 101, 3) := by decide +kernel
theorem dL_refuses_170 : decode cL_refuses 170 = .ok (.iload_n 1, 1) := by decide +kernel
theorem dL_refuses_171 : decode cL_refuses 171 = .ok (.iadd, 1) := by decide +kernel
theorem dL_refuses_172 : decode cL_refuses 172 = .ok (.invokestatic 112, 3) := by decide +kernel
theorem dL_refuses_175 : decode cL_refuses 175 = .ok (.bipush (-2), 2) := by decide +kernel
theorem dL_refuses_177 : decode cL_refuses 177 = .ok (.if_icmp .ne 70, 3) := by decide +kernel
theorem dL_refuses_180 : decode cL_refuses 180 = .ok (.aload_n 0, 1) := by decide +kernel
theorem dL_refuses_181 : decode cL_refuses 181 = .ok (.aload_n 0, 1) := by decide +kernel
theorem dL_refuses_182 : decode cL_refuses 182 = .ok (.invokevirtual 95, 3) := by decide +kernel
theorem dL_refuses_185 : decode cL_refuses 185 = .ok (.iconst 1, 1) := by decide +kernel
theorem dL_refuses_186 : decode cL_refuses 186 = .ok (.iadd, 1) := by decide +kernel
theorem dL_refuses_187 : decode cL_refuses 187 = .ok (.iload_n 1, 1) := by decide +kernel
theorem dL_refuses_188 : decode cL_refuses 188 = .ok (.iadd, 1) := by decide +kernel
theorem dL_refuses_189 : decode cL_refuses 189 = .ok (.bipush 30, 2) := by decide +kernel
theorem dL_refuses_191 : decode cL_refuses 191 = .ok (.invokestatic 139, 3) := by decide +kernel
theorem dL_refuses_194 : decode cL_refuses 194 = .ok (.bipush (-3), 2) := by decide +kernel
theorem dL_refuses_196 : decode cL_refuses 196 = .ok (.if_icmp .ne 51, 3) := by decide +kernel
theorem dL_refuses_199 : decode cL_refuses 199 = .ok (.aload_n 0, 1) := by decide +kernel
theorem dL_refuses_200 : decode cL_refuses 200 = .ok (.iconst 0, 1) := by decide +kernel
theorem dL_refuses_201 : decode cL_refuses 201 = .ok (.bipush 32, 2) := by decide +kernel
theorem dL_refuses_203 : decode cL_refuses 203 = .ok (.iload_n 1, 1) := by decide +kernel
theorem dL_refuses_204 : decode cL_refuses 204 = .ok (.iadd, 1) := by decide +kernel
theorem dL_refuses_205 : decode cL_refuses 205 = .ok (.invokestatic 139, 3) := by decide +kernel
theorem dL_refuses_208 : decode cL_refuses 208 = .ok (.bipush (-2), 2) := by decide +kernel
theorem dL_refuses_210 : decode cL_refuses 210 = .ok (.if_icmp .ne 37, 3) := by decide +kernel
theorem dL_refuses_213 : decode cL_refuses 213 = .ok (.aload_n 0, 1) := by decide +kernel
theorem dL_refuses_214 : decode cL_refuses 214 = .ok (.sipush 128, 3) := by decide +kernel
theorem dL_refuses_217 : decode cL_refuses 217 = .ok (.iload_n 1, 1) := by decide +kernel
theorem dL_refuses_218 : decode cL_refuses 218 = .ok (.iadd, 1) := by decide +kernel
theorem dL_refuses_219 : decode cL_refuses 219 = .ok (.invokestatic 83, 3) := by decide +kernel
theorem dL_refuses_222 : decode cL_refuses 222 = .ok (.bipush (-2), 2) := by decide +kernel
theorem dL_refuses_224 : decode cL_refuses 224 = .ok (.if_icmp .ne 23, 3) := by decide +kernel
theorem dL_refuses_227 : decode cL_refuses 227 = .ok (.aload_n 0, 1) := by decide +kernel
theorem dL_refuses_228 : decode cL_refuses 228 = .ok (.bipush 65, 2) := by decide +kernel
theorem dL_refuses_230 : decode cL_refuses 230 = .ok (.iload_n 1, 1) := by decide +kernel
theorem dL_refuses_231 : decode cL_refuses 231 = .ok (.bipush 26, 2) := by decide +kernel
theorem dL_refuses_233 : decode cL_refuses 233 = .ok (.irem, 1) := by decide +kernel
theorem dL_refuses_234 : decode cL_refuses 234 = .ok (.iadd, 1) := by decide +kernel
theorem dL_refuses_235 : decode cL_refuses 235 = .ok (.invokestatic 83, 3) := by decide +kernel
theorem dL_refuses_238 : decode cL_refuses 238 = .ok (.bipush (-2), 2) := by decide +kernel
theorem dL_refuses_240 : decode cL_refuses 240 = .ok (.if_icmp .ne 7, 3) := by decide +kernel
theorem dL_refuses_243 : decode cL_refuses 243 = .ok (.iconst 1, 1) := by decide +kernel
theorem dL_refuses_244 : decode cL_refuses 244 = .ok (.goto 4, 3) := by decide +kernel
theorem dL_refuses_247 : decode cL_refuses 247 = .ok (.iconst 0, 1) := by decide +kernel
theorem dL_refuses_248 : decode cL_refuses 248 = .ok (.istore_n 3, 1) := by decide +kernel
theorem dL_refuses_249 : decode cL_refuses 249 = .ok (.iload_n 3, 1) := by decide +kernel
theorem dL_refuses_250 : decode cL_refuses 250 = .ok (.ifCond .eq 34, 3) := by decide +kernel
theorem dL_refuses_253 : decode cL_refuses 253 = .ok (.aload_n 0, 1) := by decide +kernel
theorem dL_refuses_254 : decode cL_refuses 254 = .ok (.bipush 49, 2) := by decide +kernel
theorem dL_refuses_256 : decode cL_refuses 256 = .ok (.invokestatic 83, 3) := by decide +kernel
theorem dL_refuses_259 : decode cL_refuses 259 = .ok (.iconst 1, 1) := by decide +kernel
theorem dL_refuses_260 : decode cL_refuses 260 = .ok (.if_icmp .ne 24, 3) := by decide +kernel
theorem dL_refuses_263 : decode cL_refuses 263 = .ok (.aload_n 0, 1) := by decide +kernel
theorem dL_refuses_264 : decode cL_refuses 264 = .ok (.invokestatic 86, 3) := by decide +kernel
theorem dL_refuses_267 : decode cL_refuses 267 = .ok (.bipush (-2), 2) := by decide +kernel
theorem dL_refuses_269 : decode cL_refuses 269 = .ok (.if_icmp .ne 15, 3) := by decide +kernel
theorem dL_refuses_272 : decode cL_refuses 272 = .ok (.aload_n 0, 1) := by decide +kernel
theorem dL_refuses_273 : decode cL_refuses 273 = .ok (.invokevirtual 80, 3) := by decide +kernel
theorem dL_refuses_276 : decode cL_refuses 276 = .ok (.iconst 1, 1) := by decide +kernel
theorem dL_refuses_277 : decode cL_refuses 277 = .ok (.if_icmp .ne 7, 3) := by decide +kernel
theorem dL_refuses_280 : decode cL_refuses 280 = .ok (.iconst 1, 1) := by decide +kernel
theorem dL_refuses_281 : decode cL_refuses 281 = .ok (.goto 4, 3) := by decide +kernel
theorem dL_refuses_284 : decode cL_refuses 284 = .ok (.iconst 0, 1) := by decide +kernel
theorem dL_refuses_285 : decode cL_refuses 285 = .ok (.ireturn, 1) := by decide +kernel
theorem dL_law_0 : decode cL_law 0 = .ok (.new 10, 3) := by decide +kernel
theorem dL_law_3 : decode cL_law 3 = .ok (.dup, 1) := by decide +kernel
theorem dL_law_4 : decode cL_law 4 = .ok (.invokespecial 157, 3) := by decide +kernel
theorem dL_law_7 : decode cL_law 7 = .ok (.astore_n 1, 1) := by decide +kernel
theorem dL_law_8 : decode cL_law 8 = .ok (.new 10, 3) := by decide +kernel
theorem dL_law_11 : decode cL_law 11 = .ok (.dup, 1) := by decide +kernel
theorem dL_law_12 : decode cL_law 12 = .ok (.invokespecial 157, 3) := by decide +kernel
theorem dL_law_15 : decode cL_law 15 = .ok (.astore_n 2, 1) := by decide +kernel
theorem dL_law_16 : decode cL_law 16 = .ok (.aload_n 1, 1) := by decide +kernel
theorem dL_law_17 : decode cL_law 17 = .ok (.invokestatic 91, 3) := by decide +kernel
theorem dL_law_20 : decode cL_law 20 = .ok (.bipush (-2), 2) := by decide +kernel
theorem dL_law_22 : decode cL_law 22 = .ok (.if_icmp .ne 38, 3) := by decide +kernel
theorem dL_law_25 : decode cL_law 25 = .ok (.aload_n 1, 1) := by decide +kernel
theorem dL_law_26 : decode cL_law 26 = .ok (.invokevirtual 158, 3) := by decide +kernel
theorem dL_law_29 : decode cL_law 29 = .ok (.ifCond .ne 31, 3) := by decide +kernel
theorem dL_law_32 : decode cL_law 32 = .ok (.aload_n 1, 1) := by decide +kernel
theorem dL_law_33 : decode cL_law 33 = .ok (.invokevirtual 132, 3) := by decide +kernel
theorem dL_law_36 : decode cL_law 36 = .ok (.dconst 1, 1) := by decide +kernel
theorem dL_law_37 : decode cL_law 37 = .ok (.dcmp .l, 1) := by decide +kernel
theorem dL_law_38 : decode cL_law 38 = .ok (.ifCond .ne 22, 3) := by decide +kernel
theorem dL_law_41 : decode cL_law 41 = .ok (.aload_n 1, 1) := by decide +kernel
theorem dL_law_42 : decode cL_law 42 = .ok (.invokevirtual 136, 3) := by decide +kernel
theorem dL_law_45 : decode cL_law 45 = .ok (.iconst (-1), 1) := by decide +kernel
theorem dL_law_46 : decode cL_law 46 = .ok (.if_icmp .ne 14, 3) := by decide +kernel
theorem dL_law_49 : decode cL_law 49 = .ok (.aload_n 1, 1) := by decide +kernel
theorem dL_law_50 : decode cL_law 50 = .ok (.invokestatic 161, 3) := by decide +kernel
theorem dL_law_53 : decode cL_law 53 = .ok (.ifCond .eq 7, 3) := by decide +kernel
theorem dL_law_56 : decode cL_law 56 = .ok (.iconst 1, 1) := by decide +kernel
theorem dL_law_57 : decode cL_law 57 = .ok (.goto 4, 3) := by decide +kernel
theorem dL_law_60 : decode cL_law 60 = .ok (.iconst 0, 1) := by decide +kernel
theorem dL_law_61 : decode cL_law 61 = .ok (.istore_n 3, 1) := by decide +kernel
theorem dL_law_62 : decode cL_law 62 = .ok (.iconst 0, 1) := by decide +kernel
theorem dL_law_63 : decode cL_law 63 = .ok (.istore 4, 2) := by decide +kernel
theorem dL_law_65 : decode cL_law 65 = .ok (.iload 4, 2) := by decide +kernel
theorem dL_law_67 : decode cL_law 67 = .ok (.bipush 30, 2) := by decide +kernel
theorem dL_law_69 : decode cL_law 69 = .ok (.if_icmp .ge 113, 3) := by decide +kernel
theorem dL_law_72 : decode cL_law 72 = .ok (.iload_n 3, 1) := by decide +kernel
theorem dL_law_73 : decode cL_law 73 = .ok (.ifCond .eq 109, 3) := by decide +kernel
theorem dL_law_76 : decode cL_law 76 = .ok (.aload_n 0, 1) := by decide +kernel
theorem dL_law_77 : decode cL_law 77 = .ok (.iload 4, 2) := by decide +kernel
theorem dL_law_79 : decode cL_law 79 = .ok (.invokestatic 165, 3) := by decide +kernel
theorem dL_law_82 : decode cL_law 82 = .ok (.istore 5, 2) := by decide +kernel
theorem dL_law_84 : decode cL_law 84 = .ok (.aload_n 1, 1) := by decide +kernel
theorem dL_law_85 : decode cL_law 85 = .ok (.iload 5, 2) := by decide +kernel
theorem dL_law_87 : decode cL_law 87 = .ok (.invokestatic 169, 3) := by decide +kernel
theorem dL_law_90 : decode cL_law 90 = .ok (.istore 6, 2) := by decide +kernel
theorem dL_law_92 : decode cL_law 92 = .ok (.iload 4, 2) := by decide +kernel
theorem dL_law_94 : decode cL_law 94 = .ok (.iconst 3, 1) := by decide +kernel
theorem dL_law_95 : decode cL_law 95 = .ok (.irem, 1) := by decide +kernel
theorem dL_law_96 : decode cL_law 96 = .ok (.ifCond .gt 15, 3) := by decide +kernel
theorem dL_law_99 : decode cL_law 99 = .ok (.aload_n 2, 1) := by decide +kernel
theorem dL_law_100 : decode cL_law 100 = .ok (.iload 5, 2) := by decide +kernel
theorem dL_law_102 : decode cL_law 102 = .ok (.ldc 172, 2) := by decide +kernel
theorem dL_law_104 : decode cL_law 104 = .ok (.irem, 1) := by decide +kernel
theorem dL_law_105 : decode cL_law 105 = .ok (.invokestatic 173, 3) := by decide +kernel
theorem dL_law_108 : decode cL_law 108 = .ok (.ifCond .eq 66, 3) := by decide +kernel
theorem dL_law_111 : decode cL_law 111 = .ok (.aload_n 2, 1) := by decide +kernel
theorem dL_law_112 : decode cL_law 112 = .ok (.iload 5, 2) := by decide +kernel
theorem dL_law_114 : decode cL_law 114 = .ok (.invokestatic 169, 3) := by decide +kernel
theorem dL_law_117 : decode cL_law 117 = .ok (.iload 6, 2) := by decide +kernel
theorem dL_law_119 : decode cL_law 119 = .ok (.if_icmp .ne 55, 3) := by decide +kernel
theorem dL_law_122 : decode cL_law 122 = .ok (.aload_n 1, 1) := by decide +kernel
theorem dL_law_123 : decode cL_law 123 = .ok (.invokevirtual 177, 3) := by decide +kernel
theorem dL_law_126 : decode cL_law 126 = .ok (.aload_n 2, 1) := by decide +kernel
theorem dL_law_127 : decode cL_law 127 = .ok (.invokevirtual 177, 3) := by decide +kernel
theorem dL_law_130 : decode cL_law 130 = .ok (.if_icmp .ne 44, 3) := by decide +kernel
theorem dL_law_133 : decode cL_law 133 = .ok (.aload_n 1, 1) := by decide +kernel
theorem dL_law_134 : decode cL_law 134 = .ok (.invokevirtual 180, 3) := by decide +kernel
theorem dL_law_137 : decode cL_law 137 = .ok (.aload_n 2, 1) := by decide +kernel
theorem dL_law_138 : decode cL_law 138 = .ok (.invokevirtual 180, 3) := by decide +kernel
theorem dL_law_141 : decode cL_law 141 = .ok (.lcmp, 1) := by decide +kernel
theorem dL_law_142 : decode cL_law 142 = .ok (.ifCond .ne 32, 3) := by decide +kernel
theorem dL_law_145 : decode cL_law 145 = .ok (.iload 4, 2) := by decide +kernel
theorem dL_law_147 : decode cL_law 147 = .ok (.iconst 3, 1) := by decide +kernel
theorem dL_law_148 : decode cL_law 148 = .ok (.irem, 1) := by decide +kernel
theorem dL_law_149 : decode cL_law 149 = .ok (.ifCond .gt 21, 3) := by decide +kernel
theorem dL_law_152 : decode cL_law 152 = .ok (.iload 4, 2) := by decide +kernel
theorem dL_law_154 : decode cL_law 154 = .ok (.iconst 2, 1) := by decide +kernel
theorem dL_law_155 : decode cL_law 155 = .ok (.irem, 1) := by decide +kernel
theorem dL_law_156 : decode cL_law 156 = .ok (.ifCond .ne 7, 3) := by decide +kernel
theorem dL_law_159 : decode cL_law 159 = .ok (.aload_n 1, 1) := by decide +kernel
theorem dL_law_160 : decode cL_law 160 = .ok (.goto 4, 3) := by decide +kernel
theorem dL_law_163 : decode cL_law 163 = .ok (.aload_n 2, 1) := by decide +kernel
theorem dL_law_164 : decode cL_law 164 = .ok (.invokestatic 161, 3) := by decide +kernel
theorem dL_law_167 : decode cL_law 167 = .ok (.ifCond .eq 7, 3) := by decide +kernel
theorem dL_law_170 : decode cL_law 170 = .ok (.iconst 1, 1) := by decide +kernel
theorem dL_law_171 : decode cL_law 171 = .ok (.goto 4, 3) := by decide +kernel
theorem dL_law_174 : decode cL_law 174 = .ok (.iconst 0, 1) := by decide +kernel
theorem dL_law_175 : decode cL_law 175 = .ok (.istore_n 3, 1) := by decide +kernel
theorem dL_law_176 : decode cL_law 176 = .ok (.iinc 4 1, 3) := by decide +kernel
theorem dL_law_179 : decode cL_law 179 = .ok (.goto (-114), 3) := by decide +kernel
theorem dL_law_182 : decode cL_law 182 = .ok (.aload_n 1, 1) := by decide +kernel
theorem dL_law_183 : decode cL_law 183 = .ok (.invokevirtual 180, 3) := by decide +kernel
theorem dL_law_186 : decode cL_law 186 = .ok (.lstore 4, 2) := by decide +kernel
theorem dL_law_188 : decode cL_law 188 = .ok (.aload_n 1, 1) := by decide +kernel
theorem dL_law_189 : decode cL_law 189 = .ok (.invokevirtual 177, 3) := by decide +kernel
theorem dL_law_192 : decode cL_law 192 = .ok (.istore 6, 2) := by decide +kernel
theorem dL_law_194 : decode cL_law 194 = .ok (.aload_n 1, 1) := by decide +kernel
theorem dL_law_195 : decode cL_law 195 = .ok (.iconst 1, 1) := by decide +kernel
theorem dL_law_196 : decode cL_law 196 = .ok (.invokevirtual 73, 3) := by decide +kernel
theorem dL_law_199 : decode cL_law 199 = .ok (.istore 7, 2) := by decide +kernel
theorem dL_law_201 : decode cL_law 201 = .ok (.iload_n 3, 1) := by decide +kernel
theorem dL_law_202 : decode cL_law 202 = .ok (.ifCond .eq 65, 3) := by decide +kernel
theorem dL_law_205 : decode cL_law 205 = .ok (.aload_n 1, 1) := by decide +kernel
theorem dL_law_206 : decode cL_law 206 = .ok (.invokestatic 161, 3) := by decide +kernel
theorem dL_law_209 : decode cL_law 209 = .ok (.ifCond .eq 58, 3) := by decide +kernel
theorem dL_law_212 : decode cL_law 212 = .ok (.aload_n 1, 1) := by decide +kernel
theorem dL_law_213 : decode cL_law 213 = .ok (.invokestatic 91, 3) := by decide +kernel
theorem dL_law_216 : decode cL_law 216 = .ok (.iload 6, 2) := by decide +kernel
theorem dL_law_218 : decode cL_law 218 = .ok (.bipush 6, 2) := by decide +kernel
theorem dL_law_220 : decode cL_law 220 = .ok (.if_icmp .ne 7, 3) := by decide +kernel
theorem dL_law_223 : decode cL_law 223 = .ok (.iconst 5, 1) := by decide +kernel
theorem dL_law_224 : decode cL_law 224 = .ok (.goto 5, 3) := by decide +kernel
theorem dL_law_227 : decode cL_law 227 = .ok (.iload 6, 2) := by decide +kernel
theorem dL_law_229 : decode cL_law 229 = .ok (.if_icmp .ne 38, 3) := by decide +kernel
theorem dL_law_232 : decode cL_law 232 = .ok (.aload_n 1, 1) := by decide +kernel
theorem dL_law_233 : decode cL_law 233 = .ok (.invokevirtual 180, 3) := by decide +kernel
theorem dL_law_236 : decode cL_law 236 = .ok (.lload 4, 2) := by decide +kernel
theorem dL_law_238 : decode cL_law 238 = .ok (.lcmp, 1) := by decide +kernel
theorem dL_law_239 : decode cL_law 239 = .ok (.ifCond .ne 28, 3) := by decide +kernel
theorem dL_law_242 : decode cL_law 242 = .ok (.aload_n 2, 1) := by decide +kernel
theorem dL_law_243 : decode cL_law 243 = .ok (.iload 7, 2) := by decide +kernel
theorem dL_law_245 : decode cL_law 245 = .ok (.invokevirtual 73, 3) := by decide +kernel
theorem dL_law_248 : decode cL_law 248 = .ok (.iload 7, 2) := by decide +kernel
theorem dL_law_250 : decode cL_law 250 = .ok (.if_icmp .ne 17, 3) := by decide +kernel
theorem dL_law_253 : decode cL_law 253 = .ok (.aload_n 2, 1) := by decide +kernel
theorem dL_law_254 : decode cL_law 254 = .ok (.invokevirtual 180, 3) := by decide +kernel
theorem dL_law_257 : decode cL_law 257 = .ok (.lload 4, 2) := by decide +kernel
theorem dL_law_259 : decode cL_law 259 = .ok (.lcmp, 1) := by decide +kernel
theorem dL_law_260 : decode cL_law 260 = .ok (.ifCond .ne 7, 3) := by decide +kernel
theorem dL_law_263 : decode cL_law 263 = .ok (.iconst 1, 1) := by decide +kernel
theorem dL_law_264 : decode cL_law 264 = .ok (.goto 4, 3) := by decide +kernel
theorem dL_law_267 : decode cL_law 267 = .ok (.iconst 0, 1) := by decide +kernel
theorem dL_law_268 : decode cL_law 268 = .ok (.istore_n 3, 1) := by decide +kernel
theorem dL_law_269 : decode cL_law 269 = .ok (.iload_n 3, 1) := by decide +kernel
theorem dL_law_270 : decode cL_law 270 = .ok (.ifCond .eq 42, 3) := by decide +kernel
theorem dL_law_273 : decode cL_law 273 = .ok (.aload_n 1, 1) := by decide +kernel
theorem dL_law_274 : decode cL_law 274 = .ok (.invokevirtual 80, 3) := by decide +kernel
theorem dL_law_277 : decode cL_law 277 = .ok (.ifCond .lt 35, 3) := by decide +kernel
theorem dL_law_280 : decode cL_law 280 = .ok (.aload_n 1, 1) := by decide +kernel
theorem dL_law_281 : decode cL_law 281 = .ok (.bipush 97, 2) := by decide +kernel
theorem dL_law_283 : decode cL_law 283 = .ok (.invokestatic 83, 3) := by decide +kernel
theorem dL_law_286 : decode cL_law 286 = .ok (.iconst 1, 1) := by decide +kernel
theorem dL_law_287 : decode cL_law 287 = .ok (.if_icmp .ne 25, 3) := by decide +kernel
theorem dL_law_290 : decode cL_law 290 = .ok (.aload_n 1, 1) := by decide +kernel
theorem dL_law_291 : decode cL_law 291 = .ok (.invokevirtual 180, 3) := by decide +kernel
theorem dL_law_294 : decode cL_law 294 = .ok (.lload 4, 2) := by decide +kernel
theorem dL_law_296 : decode cL_law 296 = .ok (.lcmp, 1) := by decide +kernel
theorem dL_law_297 : decode cL_law 297 = .ok (.ifCond .ne 15, 3) := by decide +kernel
theorem dL_law_300 : decode cL_law 300 = .ok (.aload_n 1, 1) := by decide +kernel
theorem dL_law_301 : decode cL_law 301 = .ok (.invokevirtual 80, 3) := by decide +kernel
theorem dL_law_304 : decode cL_law 304 = .ok (.iconst 1, 1) := by decide +kernel
theorem dL_law_305 : decode cL_law 305 = .ok (.if_icmp .ne 7, 3) := by decide +kernel
theorem dL_law_308 : decode cL_law 308 = .ok (.iconst 1, 1) := by decide +kernel
theorem dL_law_309 : decode cL_law 309 = .ok (.goto 4, 3) := by decide +kernel
theorem dL_law_312 : decode cL_law 312 = .ok (.iconst 0, 1) := by decide +kernel
theorem dL_law_313 : decode cL_law 313 = .ok (.ireturn, 1) := by decide +kernel
