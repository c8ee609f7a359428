theorem dL_law_260 : decode cL_law 260 = .ok (.aload_n 1, 1) := by decide +kernel
theorem dL_law_261 : decode cL_law 261 = .ok (.aload_n 3, 1) := by decide +kernel
theorem dL_law_262 : decode cL_law 262 = .ok (.invokestatic 177, 3) := by decide +kernel
theorem dL_law_265 : decode cL_law 265 = .ok (.istore 6, 2) := by decide +kernel
theorem dL_law_267 : decode cL_law 267 = .ok (.aload_n 2, 1) := by decide +kernel
theorem dL_law_268 : decode cL_law 268 = .ok (.invokevirtual 182, 3) := by decide +kernel
theorem dL_law_271 : decode cL_law 271 = .ok (.istore 7, 2) := by decide +kernel
theorem dL_law_273 : decode cL_law 273 = .ok (.aload_n 2, 1) := by decide +kernel
theorem dL_law_274 : decode cL_law 274 = .ok (.invokevirtual 183, 3) := by decide +kernel
theorem dL_law_277 : decode cL_law 277 = .ok (.iload 6, 2) := by decide +kernel
theorem dL_law_279 : decode cL_law 279 = .ok (.if_icmp .eq 5, 3) := by decide +kernel
theorem dL_law_284 : decode cL_law 284 = .ok (.iload 6, 2) := by decide +kernel
theorem dL_law_286 : decode cL_law 286 = .ok (.ifCond .ne 15, 3) := by decide +kernel
theorem dL_law_289 : decode cL_law 289 = .ok (.aload_n 3, 1) := by decide +kernel
theorem dL_law_290 : decode cL_law 290 = .ok (.iconst 0, 1) := by decide +kernel
theorem dL_law_291 : decode cL_law 291 = .ok (.laload, 1) := by decide +kernel
theorem dL_law_292 : decode cL_law 292 = .ok (.iload 7, 2) := by decide +kernel
theorem dL_law_294 : decode cL_law 294 = .ok (.i2l, 1) := by decide +kernel
theorem dL_law_295 : decode cL_law 295 = .ok (.lcmp, 1) := by decide +kernel
theorem dL_law_296 : decode cL_law 296 = .ok (.ifCond .eq 5, 3) := by decide +kernel
theorem dL_law_301 : decode cL_law 301 = .ok (.goto 3128, 3) := by decide +kernel
theorem dL_law_304 : decode cL_law 304 = .ok (.aload_n 1, 1) := by decide +kernel
theorem dL_law_305 : decode cL_law 305 = .ok (.aload_n 0, 1) := by decide +kernel
theorem dL_law_306 : decode cL_law 306 = .ok (.iload 5, 2) := by decide +kernel
theorem dL_law_308 : decode cL_law 308 = .ok (.iconst 1, 1) := by decide +kernel
theorem dL_law_309 : decode cL_law 309 = .ok (.iadd, 1) := by decide +kernel
theorem dL_law_310 : decode cL_law 310 = .ok (.iaload, 1) := by decide +kernel
theorem dL_law_311 : decode cL_law 311 = .ok (.aload_n 0, 1) := by decide +kernel
theorem dL_law_312 : decode cL_law 312 = .ok (.iload 5, 2) := by decide +kernel
theorem dL_law_314 : decode cL_law 314 = .ok (.iconst 2, 1) := by decide +kernel
theorem dL_law_315 : decode cL_law 315 = .ok (.iadd, 1) := by decide +kernel
theorem dL_law_316 : decode cL_law 316 = .ok (.iaload, 1) := by decide +kernel
theorem dL_law_317 : decode cL_law 317 = .ok (.aload_n 3, 1) := by decide +kernel
theorem dL_law_318 : decode cL_law 318 = .ok (.invokestatic 186, 3) := by decide +kernel
theorem dL_law_321 : decode cL_law 321 = .ok (.istore 6, 2) := by decide +kernel
theorem dL_law_323 : decode cL_law 323 = .ok (.aload_n 2, 1) := by decide +kernel
theorem dL_law_324 : decode cL_law 324 = .ok (.aload_n 0, 1) := by decide +kernel
theorem dL_law_325 : decode cL_law 325 = .ok (.iload 5, 2) := by decide +kernel
theorem dL_law_327 : decode cL_law 327 = .ok (.iconst 1, 1) := by decide +kernel
theorem dL_law_328 : decode cL_law 328 = .ok (.iadd, 1) := by decide +kernel
theorem dL_law_329 : decode cL_law 329 = .ok (.iaload, 1) := by decide +kernel
theorem dL_law_330 : decode cL_law 330 = .ok (.aload_n 0, 1) := by decide +kernel
theorem dL_law_331 : decode cL_law 331 = .ok (.iload 5, 2) := by decide +kernel
theorem dL_law_333 : decode cL_law 333 = .ok (.iconst 2, 1) := by decide +kernel
theorem dL_law_334 : decode cL_law 334 = .ok (.iadd, 1) := by decide +kernel
theorem dL_law_335 : decode cL_law 335 = .ok (.iaload, 1) := by decide +kernel
theorem dL_law_336 : decode cL_law 336 = .ok (.invokevirtual 189, 3) := by decide +kernel
theorem dL_law_339 : decode cL_law 339 = .ok (.istore 7, 2) := by decide +kernel
theorem dL_law_341 : decode cL_law 341 = .ok (.aload_n 2, 1) := by decide +kernel
theorem dL_law_342 : decode cL_law 342 = .ok (.invokevirtual 183, 3) := by decide +kernel
theorem dL_law_345 : decode cL_law 345 = .ok (.iload 6, 2) := by decide +kernel
theorem dL_law_347 : decode cL_law 347 = .ok (.if_icmp .eq 5, 3) := by decide +kernel
theorem dL_law_352 : decode cL_law 352 = .ok (.iload 6, 2) := by decide +kernel
theorem dL_law_354 : decode cL_law 354 = .ok (.ifCond .ne 15, 3) := by decide +kernel
theorem dL_law_369 : decode cL_law 369 = .ok (.goto 3060, 3) := by decide +kernel
theorem dL_law_372 : decode cL_law 372 = .ok (.aload_n 1, 1) := by decide +kernel
theorem dL_law_373 : decode cL_law 373 = .ok (.aload_n 0, 1) := by decide +kernel
theorem dL_law_374 : decode cL_law 374 = .ok (.iload 5, 2) := by decide +kernel
theorem dL_law_376 : decode cL_law 376 = .ok (.iconst 1, 1) := by decide +kernel
theorem dL_law_377 : decode cL_law 377 = .ok (.iadd, 1) := by decide +kernel
theorem dL_law_378 : decode cL_law 378 = .ok (.iaload, 1) := by decide +kernel
theorem dL_law_379 : decode cL_law 379 = .ok (.aload_n 0, 1) := by decide +kernel
theorem dL_law_380 : decode cL_law 380 = .ok (.iload 5, 2) := by decide +kernel
theorem dL_law_382 : decode cL_law 382 = .ok (.iconst 2, 1) := by decide +kernel
theorem dL_law_383 : decode cL_law 383 = .ok (.iadd, 1) := by decide +kernel
theorem dL_law_384 : decode cL_law 384 = .ok (.iaload, 1) := by decide +kernel
theorem dL_law_385 : decode cL_law 385 = .ok (.aload_n 0, 1) := by decide +kernel
theorem dL_law_386 : decode cL_law 386 = .ok (.iload 5, 2) := by decide +kernel
theorem dL_law_388 : decode cL_law 388 = .ok (.iconst 3, 1) := by decide +kernel
theorem dL_law_389 : decode cL_law 389 = .ok (.iadd, 1) := by decide +kernel
theorem dL_law_390 : decode cL_law 390 = .ok (.iaload, 1) := by decide +kernel
theorem dL_law_391 : decode cL_law 391 = .ok (.aload_n 0, 1) := by decide +kernel
theorem dL_law_392 : decode cL_law 392 = .ok (.iload 5, 2) := by decide +kernel
theorem dL_law_394 : decode cL_law 394 = .ok (.iconst 4, 1) := by decide +kernel
theorem dL_law_395 : decode cL_law 395 = .ok (.iadd, 1) := by decide +kernel
theorem dL_law_396 : decode cL_law 396 = .ok (.iaload, 1) := by decide +kernel
theorem dL_law_397 : decode cL_law 397 = .ok (.aload_n 3, 1) := by decide +kernel
theorem dL_law_398 : decode cL_law 398 = .ok (.invokestatic 190, 3) := by decide +kernel
theorem dL_law_401 : decode cL_law 401 = .ok (.istore 6, 2) := by decide +kernel
theorem dL_law_403 : decode cL_law 403 = .ok (.aload_n 2, 1) := by decide +kernel
theorem dL_law_404 : decode cL_law 404 = .ok (.aload_n 0, 1) := by decide +kernel
theorem dL_law_405 : decode cL_law 405 = .ok (.iload 5, 2) := by decide +kernel
theorem dL_law_407 : decode cL_law 407 = .ok (.iconst 1, 1) := by decide +kernel
theorem dL_law_408 : decode cL_law 408 = .ok (.iadd, 1) := by decide +kernel
theorem dL_law_409 : decode cL_law 409 = .ok (.iaload, 1) := by decide +kernel
theorem dL_law_410 : decode cL_law 410 = .ok (.aload_n 0, 1) := by decide +kernel
theorem dL_law_411 : decode cL_law 411 = .ok (.iload 5, 2) := by decide +kernel
theorem dL_law_413 : decode cL_law 413 = .ok (.iconst 2, 1) := by decide +kernel
theorem dL_law_414 : decode cL_law 414 = .ok (.iadd, 1) := by decide +kernel
theorem dL_law_415 : decode cL_law 415 = .ok (.iaload, 1) := by decide +kernel
theorem dL_law_416 : decode cL_law 416 = .ok (.aload_n 0, 1) := by decide +kernel
theorem dL_law_417 : decode cL_law 417 = .ok (.iload 5, 2) := by decide +kernel
theorem dL_law_419 : decode cL_law 419 = .ok (.iconst 3, 1) := by decide +kernel
theorem dL_law_420 : decode cL_law 420 = .ok (.iadd, 1) := by decide +kernel
theorem dL_law_421 : decode cL_law 421 = .ok (.iaload, 1) := by decide +kernel
theorem dL_law_422 : decode cL_law 422 = .ok (.aload_n 0, 1) := by decide +kernel
theorem dL_law_423 : decode cL_law 423 = .ok (.iload 5, 2) := by decide +kernel
theorem dL_law_425 : decode cL_law 425 = .ok (.iconst 4, 1) := by decide +kernel
theorem dL_law_426 : decode cL_law 426 = .ok (.iadd, 1) := by decide +kernel
theorem dL_law_427 : decode cL_law 427 = .ok (.iaload, 1) := by decide +kernel
theorem dL_law_428 : decode cL_law 428 = .ok (.invokevirtual 193, 3) := by decide +kernel
theorem dL_law_431 : decode cL_law 431 = .ok (.istore 7, 2) := by decide +kernel
theorem dL_law_433 : decode cL_law 433 = .ok (.aload_n 2, 1) := by decide +kernel
theorem dL_law_434 : decode cL_law 434 = .ok (.invokevirtual 183, 3) := by decide +kernel
theorem dL_law_437 : decode cL_law 437 = .ok (.iload 6, 2) := by decide +kernel
theorem dL_law_439 : decode cL_law 439 = .ok (.if_icmp .eq 5, 3) := by decide +kernel
theorem dL_law_444 : decode cL_law 444 = .ok (.iload 6, 2) := by decide +kernel
theorem dL_law_446 : decode cL_law 446 = .ok (.ifCond .ne 15, 3) := by decide +kernel
theorem dL_law_461 : decode cL_law 461 = .ok (.goto 2968, 3) := by decide +kernel
theorem dL_law_464 : decode cL_law 464 = .ok (.aload_n 1, 1) := by decide +kernel
theorem dL_law_465 : decode cL_law 465 = .ok (.aload_n 0, 1) := by decide +kernel
theorem dL_law_466 : decode cL_law 466 = .ok (.iload 5, 2) := by decide +kernel
theorem dL_law_468 : decode cL_law 468 = .ok (.iconst 1, 1) := by decide +kernel
theorem dL_law_469 : decode cL_law 469 = .ok (.iadd, 1) := by decide +kernel
theorem dL_law_470 : decode cL_law 470 = .ok (.iaload, 1) := by decide +kernel
theorem dL_law_471 : decode cL_law 471 = .ok (.aload_n 3, 1) := by decide +kernel
theorem dL_law_472 : decode cL_law 472 = .ok (.invokestatic 194, 3) := by decide +kernel
theorem dL_law_475 : decode cL_law 475 = .ok (.istore 6, 2) := by decide +kernel
theorem dL_law_477 : decode cL_law 477 = .ok (.aload_n 2, 1) := by decide +kernel
theorem dL_law_478 : decode cL_law 478 = .ok (.aload_n 0, 1) := by decide +kernel
theorem dL_law_479 : decode cL_law 479 = .ok (.iload 5, 2) := by decide +kernel
theorem dL_law_481 : decode cL_law 481 = .ok (.iconst 1, 1) := by decide +kernel
theorem dL_law_482 : decode cL_law 482 = .ok (.iadd, 1) := by decide +kernel
theorem dL_law_483 : decode cL_law 483 = .ok (.iaload, 1) := by decide +kernel
theorem dL_law_484 : decode cL_law 484 = .ok (.invokevirtual 197, 3) := by decide +kernel
theorem dL_law_487 : decode cL_law 487 = .ok (.istore 7, 2) := by decide +kernel
theorem dL_law_489 : decode cL_law 489 = .ok (.aload_n 2, 1) := by decide +kernel
theorem dL_law_490 : decode cL_law 490 = .ok (.invokevirtual 183, 3) := by decide +kernel
theorem dL_law_493 : decode cL_law 493 = .ok (.iload 6, 2) := by decide +kernel
theorem dL_law_495 : decode cL_law 495 = .ok (.if_icmp .eq 5, 3) := by decide +kernel
theorem dL_law_500 : decode cL_law 500 = .ok (.iload 6, 2) := by decide +kernel
theorem dL_law_502 : decode cL_law 502 = .ok (.ifCond .ne 15, 3) := by decide +kernel
theorem dL_law_517 : decode cL_law 517 = .ok (.goto 2912, 3) := by decide +kernel
theorem dL_law_520 : decode cL_law 520 = .ok (.aload_n 1, 1) := by decide +kernel
theorem dL_law_521 : decode cL_law 521 = .ok (.aload_n 0, 1) := by decide +kernel
theorem dL_law_522 : decode cL_law 522 = .ok (.iload 5, 2) := by decide +kernel
theorem dL_law_524 : decode cL_law 524 = .ok (.iconst 1, 1) := by decide +kernel
theorem dL_law_525 : decode cL_law 525 = .ok (.iadd, 1) := by decide +kernel
theorem dL_law_526 : decode cL_law 526 = .ok (.iaload, 1) := by decide +kernel
theorem dL_law_527 : decode cL_law 527 = .ok (.aload_n 0, 1) := by decide +kernel
theorem dL_law_528 : decode cL_law 528 = .ok (.iload 5, 2) := by decide +kernel
theorem dL_law_530 : decode cL_law 530 = .ok (.iconst 2, 1) := by decide +kernel
theorem dL_law_531 : decode cL_law 531 = .ok (.iadd, 1) := by decide +kernel
theorem dL_law_532 : decode cL_law 532 = .ok (.iaload, 1) := by decide +kernel
theorem dL_law_533 : decode cL_law 533 = .ok (.aload_n 0, 1) := by decide +kernel
theorem dL_law_534 : decode cL_law 534 = .ok (.iload 5, 2) := by decide +kernel
theorem dL_law_536 : decode cL_law 536 = .ok (.iconst 3, 1) := by decide +kernel
theorem dL_law_537 : decode cL_law 537 = .ok (.iadd, 1) := by decide +kernel
theorem dL_law_538 : decode cL_law 538 = .ok (.iaload, 1) := by decide +kernel
theorem dL_law_539 : decode cL_law 539 = .ok (.aload_n 3, 1) := by decide +kernel
theorem dL_law_540 : decode cL_law 540 = .ok (.invokestatic 198, 3) := by decide +kernel
theorem dL_law_543 : decode cL_law 543 = .ok (.istore 6, 2) := by decide +kernel
theorem dL_law_545 : decode cL_law 545 = .ok (.aload_n 2, 1) := by decide +kernel
theorem dL_law_546 : decode cL_law 546 = .ok (.aload_n 0, 1) := by decide +kernel
theorem dL_law_547 : decode cL_law 547 = .ok (.iload 5, 2) := by decide +kernel
theorem dL_law_549 : decode cL_law 549 = .ok (.iconst 1, 1) := by decide +kernel
theorem dL_law_550 : decode cL_law 550 = .ok (.iadd, 1) := by decide +kernel
theorem dL_law_551 : decode cL_law 551 = .ok (.iaload, 1) := by decide +kernel
theorem dL_law_552 : decode cL_law 552 = .ok (.aload_n 0, 1) := by decide +kernel
theorem dL_law_553 : decode cL_law 553 = .ok (.iload 5, 2) := by decide +kernel
theorem dL_law_555 : decode cL_law 555 = .ok (.iconst 2, 1) := by decide +kernel
theorem dL_law_556 : decode cL_law 556 = .ok (.iadd, 1) := by decide +kernel
theorem dL_law_557 : decode cL_law 557 = .ok (.iaload, 1) := by decide +kernel
theorem dL_law_558 : decode cL_law 558 = .ok (.aload_n 0, 1) := by decide +kernel
theorem dL_law_559 : decode cL_law 559 = .ok (.iload 5, 2) := by decide +kernel
theorem dL_law_561 : decode cL_law 561 = .ok (.iconst 3, 1) := by decide +kernel
theorem dL_law_562 : decode cL_law 562 = .ok (.iadd, 1) := by decide +kernel
theorem dL_law_563 : decode cL_law 563 = .ok (.iaload, 1) := by decide +kernel
theorem dL_law_564 : decode cL_law 564 = .ok (.invokevirtual 201, 3) := by decide +kernel
theorem dL_law_567 : decode cL_law 567 = .ok (.istore 7, 2) := by decide +kernel
theorem dL_law_569 : decode cL_law 569 = .ok (.aload_n 2, 1) := by decide +kernel
theorem dL_law_570 : decode cL_law 570 = .ok (.invokevirtual 183, 3) := by decide +kernel
theorem dL_law_573 : decode cL_law 573 = .ok (.iload 6, 2) := by decide +kernel
theorem dL_law_575 : decode cL_law 575 = .ok (.if_icmp .eq 5, 3) := by decide +kernel
theorem dL_law_580 : decode cL_law 580 = .ok (.iload 6, 2) := by decide +kernel
theorem dL_law_582 : decode cL_law 582 = .ok (.ifCond .ne 15, 3) := by decide +kernel
theorem dL_law_597 : decode cL_law 597 = .ok (.goto 2832, 3) := by decide +kernel
theorem dL_law_600 : decode cL_law 600 = .ok (.aload_n 1, 1) := by decide +kernel
theorem dL_law_601 : decode cL_law 601 = .ok (.aload_n 0, 1) := by decide +kernel
theorem dL_law_602 : decode cL_law 602 = .ok (.iload 5, 2) := by decide +kernel
theorem dL_law_604 : decode cL_law 604 = .ok (.iconst 1, 1) := by decide +kernel
theorem dL_law_605 : decode cL_law 605 = .ok (.iadd, 1) := by decide +kernel
theorem dL_law_606 : decode cL_law 606 = .ok (.iaload, 1) := by decide +kernel
theorem dL_law_607 : decode cL_law 607 = .ok (.aload_n 3, 1) := by decide +kernel
theorem dL_law_608 : decode cL_law 608 = .ok (.invokestatic 202, 3) := by decide +kernel
theorem dL_law_611 : decode cL_law 611 = .ok (.istore 6, 2) := by decide +kernel
theorem dL_law_613 : decode cL_law 613 = .ok (.aload_n 2, 1) := by decide +kernel
theorem dL_law_614 : decode cL_law 614 = .ok (.aload_n 0, 1) := by decide +kernel
theorem dL_law_615 : decode cL_law 615 = .ok (.iload 5, 2) := by decide +kernel
theorem dL_law_617 : decode cL_law 617 = .ok (.iconst 1, 1) := by decide +kernel
theorem dL_law_618 : decode cL_law 618 = .ok (.iadd, 1) := by decide +kernel
theorem dL_law_619 : decode cL_law 619 = .ok (.iaload, 1) := by decide +kernel
theorem dL_law_620 : decode cL_law 620 = .ok (.invokevirtual 204, 3) := by decide +kernel
theorem dL_law_623 : decode cL_law 623 = .ok (.istore 7, 2) := by decide +kernel
theorem dL_law_625 : decode cL_law 625 = .ok (.aload_n 2, 1) := by decide +kernel
theorem dL_law_626 : decode cL_law 626 = .ok (.invokevirtual 183, 3) := by decide +kernel
theorem dL_law_629 : decode cL_law 629 = .ok (.iload 6, 2) := by decide +kernel
theorem dL_law_631 : decode cL_law 631 = .ok (.if_icmp .eq 5, 3) := by decide +kernel
theorem dL_law_636 : decode cL_law 636 = .ok (.iload 6, 2) := by decide +kernel
theorem dL_law_638 : decode cL_law 638 = .ok (.ifCond .ne 15, 3) := by decide +kernel
theorem dL_law_641 : decode cL_law 641 = .ok (.aload_n 3, 1) := by decide +kernel
theorem dL_law_642 : decode cL_law 642 = .ok (.iconst 0, 1) := by decide +kernel
theorem dL_law_643 : decode cL_law 643 = .ok (.laload, 1) := by decide +kernel
theorem dL_law_644 : decode cL_law 644 = .ok (.iload 7, 2) := by decide +kernel
theorem dL_law_646 : decode cL_law 646 = .ok (.i2l, 1) := by decide +kernel
theorem dL_law_647 : decode cL_law 647 = .ok (.lcmp, 1) := by decide +kernel
theorem dL_law_648 : decode cL_law 648 = .ok (.ifCond .eq 5, 3) := by decide +kernel
theorem dL_law_653 : decode cL_law 653 = .ok (.goto 2776, 3) := by decide +kernel
theorem dL_law_656 : decode cL_law 656 = .ok (.aload_n 1, 1) := by decide +kernel
theorem dL_law_657 : decode cL_law 657 = .ok (.aload_n 0, 1) := by decide +kernel
theorem dL_law_658 : decode cL_law 658 = .ok (.iload 5, 2) := by decide +kernel
theorem dL_law_660 : decode cL_law 660 = .ok (.iconst 1, 1) := by decide +kernel
theorem dL_law_661 : decode cL_law 661 = .ok (.iadd, 1) := by decide +kernel
theorem dL_law_662 : decode cL_law 662 = .ok (.iaload, 1) := by decide +kernel
theorem dL_law_663 : decode cL_law 663 = .ok (.aload_n 0, 1) := by decide +kernel
theorem dL_law_664 : decode cL_law 664 = .ok (.iload 5, 2) := by decide +kernel
theorem dL_law_666 : decode cL_law 666 = .ok (.iconst 2, 1) := by decide +kernel
theorem dL_law_667 : decode cL_law 667 = .ok (.iadd, 1) := by decide +kernel
theorem dL_law_668 : decode cL_law 668 = .ok (.iaload, 1) := by decide +kernel
theorem dL_law_669 : decode cL_law 669 = .ok (.aload_n 0, 1) := by decide +kernel
theorem dL_law_670 : decode cL_law 670 = .ok (.iload 5, 2) := by decide +kernel
theorem dL_law_672 : decode cL_law 672 = .ok (.iconst 3, 1) := by decide +kernel
theorem dL_law_673 : decode cL_law 673 = .ok (.iadd, 1) := by decide +kernel
theorem dL_law_674 : decode cL_law 674 = .ok (.iaload, 1) := by decide +kernel
theorem dL_law_675 : decode cL_law 675 = .ok (.aload_n 3, 1) := by decide +kernel
theorem dL_law_676 : decode cL_law 676 = .ok (.invokestatic 205, 3) := by decide +kernel
theorem dL_law_679 : decode cL_law 679 = .ok (.istore 6, 2) := by decide +kernel
theorem dL_law_681 : decode cL_law 681 = .ok (.aload_n 2, 1) := by decide +kernel
theorem dL_law_682 : decode cL_law 682 = .ok (.aload_n 0, 1) := by decide +kernel
theorem dL_law_683 : decode cL_law 683 = .ok (.iload 5, 2) := by decide +kernel
theorem dL_law_685 : decode cL_law 685 = .ok (.iconst 1, 1) := by decide +kernel
theorem dL_law_686 : decode cL_law 686 = .ok (.iadd, 1) := by decide +kernel
theorem dL_law_687 : decode cL_law 687 = .ok (.iaload, 1) := by decide +kernel
theorem dL_law_688 : decode cL_law 688 = .ok (.aload_n 0, 1) := by decide +kernel
theorem dL_law_689 : decode cL_law 689 = .ok (.iload 5, 2) := by decide +kernel
theorem dL_law_691 : decode cL_law 691 = .ok (.iconst 2, 1) := by decide +kernel
theorem dL_law_692 : decode cL_law 692 = .ok (.iadd, 1) := by decide +kernel
theorem dL_law_693 : decode cL_law 693 = .ok (.iaload, 1) := by decide +kernel
theorem dL_law_694 : decode cL_law 694 = .ok (.aload_n 0, 1) := by decide +kernel
theorem dL_law_695 : decode cL_law 695 = .ok (.iload 5, 2) := by decide +kernel
theorem dL_law_697 : decode cL_law 697 = .ok (.iconst 3, 1) := by decide +kernel
theorem dL_law_698 : decode cL_law 698 = .ok (.iadd, 1) := by decide +kernel
theorem dL_law_699 : decode cL_law 699 = .ok (.iaload, 1) := by decide +kernel
theorem dL_law_700 : decode cL_law 700 = .ok (.invokevirtual 207, 3) := by decide +kernel
theorem dL_law_703 : decode cL_law 703 = .ok (.istore 7, 2) := by decide +kernel
theorem dL_law_705 : decode cL_law 705 = .ok (.aload_n 2, 1) := by decide +kernel
theorem dL_law_706 : decode cL_law 706 = .ok (.invokevirtual 183, 3) := by decide +kernel
theorem dL_law_709 : decode cL_law 709 = .ok (.iload 6, 2) := by decide +kernel
theorem dL_law_711 : decode cL_law 711 = .ok (.if_icmp .eq 5, 3) := by decide +kernel
theorem dL_law_716 : decode cL_law 716 = .ok (.iload 6, 2) := by decide +kernel
theorem dL_law_718 : decode cL_law 718 = .ok (.ifCond .ne 15, 3) := by decide +kernel
theorem dL_law_733 : decode cL_law 733 = .ok (.goto 2696, 3) := by decide +kernel
theorem dL_law_736 : decode cL_law 736 = .ok (.aload_n 1, 1) := by decide +kernel
theorem dL_law_737 : decode cL_law 737 = .ok (.aload_n 0, 1) := by decide +kernel
theorem dL_law_738 : decode cL_law 738 = .ok (.iload 5, 2) := by decide +kernel
theorem dL_law_740 : decode cL_law 740 = .ok (.iconst 1, 1) := by decide +kernel
theorem dL_law_741 : decode cL_law 741 = .ok (.iadd, 1) := by decide +kernel
theorem dL_law_742 : decode cL_law 742 = .ok (.iaload, 1) := by decide +kernel
theorem dL_law_743 : decode cL_law 743 = .ok (.aload_n 0, 1) := by decide +kernel
theorem dL_law_744 : decode cL_law 744 = .ok (.iload 5, 2) := by decide +kernel
theorem dL_law_746 : decode cL_law 746 = .ok (.iconst 2, 1) := by decide +kernel
theorem dL_law_747 : decode cL_law 747 = .ok (.iadd, 1) := by decide +kernel
theorem dL_law_748 : decode cL_law 748 = .ok (.iaload, 1) := by decide +kernel
theorem dL_law_749 : decode cL_law 749 = .ok (.aload_n 3, 1) := by decide +kernel
theorem dL_law_750 : decode cL_law 750 = .ok (.invokestatic 208, 3) := by decide +kernel
theorem dL_law_753 : decode cL_law 753 = .ok (.istore 6, 2) := by decide +kernel
theorem dL_law_755 : decode cL_law 755 = .ok (.aload_n 2, 1) := by decide +kernel
theorem dL_law_756 : decode cL_law 756 = .ok (.aload_n 0, 1) := by decide +kernel
theorem dL_law_757 : decode cL_law 757 = .ok (.iload 5, 2) := by decide +kernel
theorem dL_law_759 : decode cL_law 759 = .ok (.iconst 1, 1) := by decide +kernel
theorem dL_law_760 : decode cL_law 760 = .ok (.iadd, 1) := by decide +kernel
theorem dL_law_761 : decode cL_law 761 = .ok (.iaload, 1) := by decide +kernel
theorem dL_law_762 : decode cL_law 762 = .ok (.aload_n 0, 1) := by decide +kernel
theorem dL_law_763 : decode cL_law 763 = .ok (.iload 5, 2) := by decide +kernel
theorem dL_law_765 : decode cL_law 765 = .ok (.iconst 2, 1) := by decide +kernel
theorem dL_law_766 : decode cL_law 766 = .ok (.iadd, 1) := by decide +kernel
theorem dL_law_767 : decode cL_law 767 = .ok (.iaload, 1) := by decide +kernel
theorem dL_law_768 : decode cL_law 768 = .ok (.invokevirtual 210, 3) := by decide +kernel
theorem dL_law_771 : decode cL_law 771 = .ok (.istore 7, 2) := by decide +kernel
theorem dL_law_773 : decode cL_law 773 = .ok (.aload_n 2, 1) := by decide +kernel
theorem dL_law_774 : decode cL_law 774 = .ok (.invokevirtual 183, 3) := by decide +kernel
theorem dL_law_777 : decode cL_law 777 = .ok (.iload 6, 2) := by decide +kernel
theorem dL_law_779 : decode cL_law 779 = .ok (.if_icmp .eq 5, 3) := by decide +kernel
theorem dL_law_784 : decode cL_law 784 = .ok (.iload 6, 2) := by decide +kernel
theorem dL_law_786 : decode cL_law 786 = .ok (.ifCond .ne 15, 3) := by decide +kernel
theorem dL_law_801 : decode cL_law 801 = .ok (.goto 2628, 3) := by decide +kernel
theorem dL_law_804 : decode cL_law 804 = .ok (.aload_n 1, 1) := by decide +kernel
theorem dL_law_805 : decode cL_law 805 = .ok (.aload_n 0, 1) := by decide +kernel
theorem dL_law_806 : decode cL_law 806 = .ok (.iload 5, 2) := by decide +kernel
theorem dL_law_808 : decode cL_law 808 = .ok (.iconst 1, 1) := by decide +kernel
theorem dL_law_809 : decode cL_law 809 = .ok (.iadd, 1) := by decide +kernel
theorem dL_law_810 : decode cL_law 810 = .ok (.iaload, 1) := by decide +kernel
theorem dL_law_811 : decode cL_law 811 = .ok (.aload_n 3, 1) := by decide +kernel
theorem dL_law_812 : decode cL_law 812 = .ok (.invokestatic 211, 3) := by decide +kernel
theorem dL_law_815 : decode cL_law 815 = .ok (.istore 6, 2) := by decide +kernel
theorem dL_law_817 : decode cL_law 817 = .ok (.aload_n 2, 1) := by decide +kernel
theorem dL_law_818 : decode cL_law 818 = .ok (.aload_n 0, 1) := by decide +kernel
theorem dL_law_819 : decode cL_law 819 = .ok (.iload 5, 2) := by decide +kernel
theorem dL_law_821 : decode cL_law 821 = .ok (.iconst 1, 1) := by decide +kernel
theorem dL_law_822 : decode cL_law 822 = .ok (.iadd, 1) := by decide +kernel
theorem dL_law_823 : decode cL_law 823 = .ok (.iaload, 1) := by decide +kernel
theorem dL_law_824 : decode cL_law 824 = .ok (.invokevirtual 213, 3) := by decide +kernel
theorem dL_law_827 : decode cL_law 827 = .ok (.istore 7, 2) := by decide +kernel
theorem dL_law_829 : decode cL_law 829 = .ok (.aload_n 2, 1) := by decide +kernel
theorem dL_law_830 : decode cL_law 830 = .ok (.invokevirtual 183, 3) := by decide +kernel
theorem dL_law_833 : decode cL_law 833 = .ok (.iload 6, 2) := by decide +kernel
theorem dL_law_835 : decode cL_law 835 = .ok (.if_icmp .eq 5, 3) := by decide +kernel
theorem dL_law_840 : decode cL_law 840 = .ok (.iload 6, 2) := by decide +kernel
theorem dL_law_842 : decode cL_law 842 = .ok (.ifCond .ne 15, 3) := by decide +kernel
theorem dL_law_857 : decode cL_law 857 = .ok (.goto 2572, 3) := by decide +kernel
theorem dL_law_860 : decode cL_law 860 = .ok (.aload_n 1, 1) := by decide +kernel
theorem dL_law_861 : decode cL_law 861 = .ok (.aload_n 0, 1) := by decide +kernel
theorem dL_law_862 : decode cL_law 862 = .ok (.iload 5, 2) := by decide +kernel
theorem dL_law_864 : decode cL_law 864 = .ok (.iconst 1, 1) := by decide +kernel
theorem dL_law_865 : decode cL_law 865 = .ok (.iadd, 1) := by decide +kernel
theorem dL_law_866 : decode cL_law 866 = .ok (.iaload, 1) := by decide +kernel
theorem dL_law_867 : decode cL_law 867 = .ok (.aload_n 0, 1) := by decide +kernel
theorem dL_law_868 : decode cL_law 868 = .ok (.iload 5, 2) := by decide +kernel
theorem dL_law_870 : decode cL_law 870 = .ok (.iconst 2, 1) := by decide +kernel
theorem dL_law_871 : decode cL_law 871 = .ok (.iadd, 1) := by decide +kernel
theorem dL_law_872 : decode cL_law 872 = .ok (.iaload, 1) := by decide +kernel
theorem dL_law_873 : decode cL_law 873 = .ok (.aload_n 0, 1) := by decide +kernel
theorem dL_law_874 : decode cL_law 874 = .ok (.iload 5, 2) := by decide +kernel
theorem dL_law_876 : decode cL_law 876 = .ok (.iconst 3, 1) := by decide +kernel
theorem dL_law_877 : decode cL_law 877 = .ok (.iadd, 1) := by decide +kernel
theorem dL_law_878 : decode cL_law 878 = .ok (.iaload, 1) := by decide +kernel
theorem dL_law_879 : decode cL_law 879 = .ok (.aload_n 0, 1) := by decide +kernel
theorem dL_law_880 : decode cL_law 880 = .ok (.iload 5, 2) := by decide +kernel
theorem dL_law_882 : decode cL_law 882 = .ok (.iconst 4, 1) := by decide +kernel
theorem dL_law_883 : decode cL_law 883 = .ok (.iadd, 1) := by decide +kernel
theorem dL_law_884 : decode cL_law 884 = .ok (.iaload, 1) := by decide +kernel
theorem dL_law_885 : decode cL_law 885 = .ok (.aload_n 3, 1) := by decide +kernel
theorem dL_law_886 : decode cL_law 886 = .ok (.invokestatic 214, 3) := by decide +kernel
theorem dL_law_889 : decode cL_law 889 = .ok (.istore 6, 2) := by decide +kernel
theorem dL_law_891 : decode cL_law 891 = .ok (.aload_n 2, 1) := by decide +kernel
theorem dL_law_892 : decode cL_law 892 = .ok (.aload_n 0, 1) := by decide +kernel
theorem dL_law_893 : decode cL_law 893 = .ok (.iload 5, 2) := by decide +kernel
theorem dL_law_895 : decode cL_law 895 = .ok (.iconst 1, 1) := by decide +kernel
theorem dL_law_896 : decode cL_law 896 = .ok (.iadd, 1) := by decide +kernel
theorem dL_law_897 : decode cL_law 897 = .ok (.iaload, 1) := by decide +kernel
theorem dL_law_898 : decode cL_law 898 = .ok (.aload_n 0, 1) := by decide +kernel
theorem dL_law_899 : decode cL_law 899 = .ok (.iload 5, 2) := by decide +kernel
theorem dL_law_901 : decode cL_law 901 = .ok (.iconst 2, 1) := by decide +kernel
theorem dL_law_902 : decode cL_law 902 = .ok (.iadd, 1) := by decide +kernel
theorem dL_law_903 : decode cL_law 903 = .ok (.iaload, 1) := by decide +kernel
theorem dL_law_904 : decode cL_law 904 = .ok (.aload_n 0, 1) := by decide +kernel
theorem dL_law_905 : decode cL_law 905 = .ok (.iload 5, 2) := by decide +kernel
theorem dL_law_907 : decode cL_law 907 = .ok (.iconst 3, 1) := by decide +kernel
theorem dL_law_908 : decode cL_law 908 = .ok (.iadd, 1) := by decide +kernel
theorem dL_law_909 : decode cL_law 909 = .ok (.iaload, 1) := by decide +kernel
theorem dL_law_910 : decode cL_law 910 = .ok (.aload_n 0, 1) := by decide +kernel
theorem dL_law_911 : decode cL_law 911 = .ok (.iload 5, 2) := by decide +kernel
theorem dL_law_913 : decode cL_law 913 = .ok (.iconst 4, 1) := by decide +kernel
theorem dL_law_914 : decode cL_law 914 = .ok (.iadd, 1) := by decide +kernel
theorem dL_law_915 : decode cL_law 915 = .ok (.iaload, 1) := by decide +kernel
theorem dL_law_916 : decode cL_law 916 = .ok (.invokevirtual 216, 3) := by decide +kernel
theorem dL_law_919 : decode cL_law 919 = .ok (.istore 7, 2) := by decide +kernel
theorem dL_law_921 : decode cL_law 921 = .ok (.aload_n 2, 1) := by decide +kernel
theorem dL_law_922 : decode cL_law 922 = .ok (.invokevirtual 183, 3) := by decide +kernel
theorem dL_law_925 : decode cL_law 925 = .ok (.iload 6, 2) := by decide +kernel
theorem dL_law_927 : decode cL_law 927 = .ok (.if_icmp .eq 5, 3) := by decide +kernel
theorem dL_law_932 : decode cL_law 932 = .ok (.iload 6, 2) := by decide +kernel
theorem dL_law_934 : decode cL_law 934 = .ok (.ifCond .ne 15, 3) := by decide +kernel
theorem dL_law_949 : decode cL_law 949 = .ok (.goto 2480, 3) := by decide +kernel
theorem dL_law_952 : decode cL_law 952 = .ok (.aload_n 1, 1) := by decide +kernel
theorem dL_law_953 : decode cL_law 953 = .ok (.aload_n 0, 1) := by decide +kernel
theorem dL_law_954 : decode cL_law 954 = .ok (.iload 5, 2) := by decide +kernel
theorem dL_law_956 : decode cL_law 956 = .ok (.iconst 1, 1) := by decide +kernel
theorem dL_law_957 : decode cL_law 957 = .ok (.iadd, 1) := by decide +kernel
theorem dL_law_958 : decode cL_law 958 = .ok (.iaload, 1) := by decide +kernel
theorem dL_law_959 : decode cL_law 959 = .ok (.aload_n 0, 1) := by decide +kernel
theorem dL_law_960 : decode cL_law 960 = .ok (.iload 5, 2) := by decide +kernel
theorem dL_law_962 : decode cL_law 962 = .ok (.iconst 2, 1) := by decide +kernel
theorem dL_law_963 : decode cL_law 963 = .ok (.iadd, 1) := by decide +kernel
theorem dL_law_964 : decode cL_law 964 = .ok (.iaload, 1) := by decide +kernel
theorem dL_law_965 : decode cL_law 965 = .ok (.aload_n 0, 1) := by decide +kernel
theorem dL_law_966 : decode cL_law 966 = .ok (.iload 5, 2) := by decide +kernel
theorem dL_law_968 : decode cL_law 968 = .ok (.iconst 3, 1) := by decide +kernel
theorem dL_law_969 : decode cL_law 969 = .ok (.iadd, 1) := by decide +kernel
theorem dL_law_970 : decode cL_law 970 = .ok (.iaload, 1) := by decide +kernel
theorem dL_law_971 : decode cL_law 971 = .ok (.aload_n 3, 1) := by decide +kernel
theorem dL_law_972 : decode cL_law 972 = .ok (.invokestatic 217, 3) := by decide +kernel
theorem dL_law_975 : decode cL_law 975 = .ok (.istore 6, 2) := by decide +kernel
theorem dL_law_977 : decode cL_law 977 = .ok (.aload_n 2, 1) := by decide +kernel
theorem dL_law_978 : decode cL_law 978 = .ok (.aload_n 0, 1) := by decide +kernel
theorem dL_law_979 : decode cL_law 979 = .ok (.iload 5, 2) := by decide +kernel
theorem dL_law_981 : decode cL_law 981 = .ok (.iconst 1, 1) := by decide +kernel
theorem dL_law_982 : decode cL_law 982 = .ok (.iadd, 1) := by decide +kernel
theorem dL_law_983 : decode cL_law 983 = .ok (.iaload, 1) := by decide +kernel
theorem dL_law_984 : decode cL_law 984 = .ok (.aload_n 0, 1) := by decide +kernel
theorem dL_law_985 : decode cL_law 985 = .ok (.iload 5, 2) := by decide +kernel
theorem dL_law_987 : decode cL_law 987 = .ok (.iconst 2, 1) := by decide +kernel
theorem dL_law_988 : decode cL_law 988 = .ok (.iadd, 1) := by decide +kernel
theorem dL_law_989 : decode cL_law 989 = .ok (.iaload, 1) := by decide +kernel
theorem dL_law_990 : decode cL_law 990 = .ok (.aload_n 0, 1) := by decide +kernel
theorem dL_law_991 : decode cL_law 991 = .ok (.iload 5, 2) := by decide +kernel
theorem dL_law_993 : decode cL_law 993 = .ok (.iconst 3, 1) := by decide +kernel
theorem dL_law_994 : decode cL_law 994 = .ok (.iadd, 1) := by decide +kernel
theorem dL_law_995 : decode cL_law 995 = .ok (.iaload, 1) := by decide +kernel
theorem dL_law_996 : decode cL_law 996 = .ok (.invokevirtual 219, 3) := by decide +kernel
theorem dL_law_999 : decode cL_law 999 = .ok (.istore 7, 2) := by decide +kernel
theorem dL_law_1001 : decode cL_law 1001 = .ok (.aload_n 2, 1) := by decide +kernel
theorem dL_law_1002 : decode cL_law 1002 = .ok (.invokevirtual 183, 3) := by decide +kernel
theorem dL_law_1005 : decode cL_law 1005 = .ok (.iload 6, 2) := by decide +kernel
theorem dL_law_1007 : decode cL_law 1007 = .ok (.if_icmp .eq 5, 3) := by decide +kernel
theorem dL_law_1012 : decode cL_law 1012 = .ok (.iload 6, 2) := by decide +kernel
theorem dL_law_1014 : decode cL_law 1014 = .ok (.ifCond .ne 15, 3) := by decide +kernel
theorem dL_law_1029 : decode cL_law 1029 = .ok (.goto 2400, 3) := by decide +kernel
theorem dL_law_1032 : decode cL_law 1032 = .ok (.aload_n 1, 1) := by decide +kernel
theorem dL_law_1033 : decode cL_law 1033 = .ok (.aload_n 0, 1) := by decide +kernel
theorem dL_law_1034 : decode cL_law 1034 = .ok (.iload 5, 2) := by decide +kernel
theorem dL_law_1036 : decode cL_law 1036 = .ok (.iconst 1, 1) := by decide +kernel
theorem dL_law_1037 : decode cL_law 1037 = .ok (.iadd, 1) := by decide +kernel
theorem dL_law_1038 : decode cL_law 1038 = .ok (.iaload, 1) := by decide +kernel
theorem dL_law_1039 : decode cL_law 1039 = .ok (.aload_n 0, 1) := by decide +kernel
theorem dL_law_1040 : decode cL_law 1040 = .ok (.iload 5, 2) := by decide +kernel
theorem dL_law_1042 : decode cL_law 1042 = .ok (.iconst 2, 1) := by decide +kernel
theorem dL_law_1043 : decode cL_law 1043 = .ok (.iadd, 1) := by decide +kernel
theorem dL_law_1044 : decode cL_law 1044 = .ok (.iaload, 1) := by decide +kernel
theorem dL_law_1045 : decode cL_law 1045 = .ok (.aload_n 3, 1) := by decide +kernel
theorem dL_law_1046 : decode cL_law 1046 = .ok (.invokestatic 220, 3) := by decide +kernel
theorem dL_law_1049 : decode cL_law 1049 = .ok (.istore 6, 2) := by decide +kernel
theorem dL_law_1051 : decode cL_law 1051 = .ok (.aload_n 2, 1) := by decide +kernel
theorem dL_law_1052 : decode cL_law 1052 = .ok (.aload_n 0, 1) := by decide +kernel
theorem dL_law_1053 : decode cL_law 1053 = .ok (.iload 5, 2) := by decide +kernel
theorem dL_law_1055 : decode cL_law 1055 = .ok (.iconst 1, 1) := by decide +kernel
theorem dL_law_1056 : decode cL_law 1056 = .ok (.iadd, 1) := by decide +kernel
theorem dL_law_1057 : decode cL_law 1057 = .ok (.iaload, 1) := by decide +kernel
theorem dL_law_1058 : decode cL_law 1058 = .ok (.aload_n 0, 1) := by decide +kernel
theorem dL_law_1059 : decode cL_law 1059 = .ok (.iload 5, 2) := by decide +kernel
theorem dL_law_1061 : decode cL_law 1061 = .ok (.iconst 2, 1) := by decide +kernel
theorem dL_law_1062 : decode cL_law 1062 = .ok (.iadd, 1) := by decide +kernel
theorem dL_law_1063 : decode cL_law 1063 = .ok (.iaload, 1) := by decide +kernel
theorem dL_law_1064 : decode cL_law 1064 = .ok (.invokevirtual 222, 3) := by decide +kernel
theorem dL_law_1067 : decode cL_law 1067 = .ok (.istore 7, 2) := by decide +kernel
theorem dL_law_1069 : decode cL_law 1069 = .ok (.aload_n 2, 1) := by decide +kernel
theorem dL_law_1070 : decode cL_law 1070 = .ok (.invokevirtual 183, 3) := by decide +kernel
theorem dL_law_1073 : decode cL_law 1073 = .ok (.iload 6, 2) := by decide +kernel
theorem dL_law_1075 : decode cL_law 1075 = .ok (.if_icmp .eq 5, 3) := by decide +kernel
theorem dL_law_1080 : decode cL_law 1080 = .ok (.iload 6, 2) := by decide +kernel
theorem dL_law_1082 : decode cL_law 1082 = .ok (.ifCond .ne 15, 3) := by decide +kernel
theorem dL_law_1097 : decode cL_law 1097 = .ok (.goto 2332, 3) := by decide +kernel
theorem dL_law_1100 : decode cL_law 1100 = .ok (.aload_n 1, 1) := by decide +kernel
theorem dL_law_1101 : decode cL_law 1101 = .ok (.aload_n 0, 1) := by decide +kernel
theorem dL_law_1102 : decode cL_law 1102 = .ok (.iload 5, 2) := by decide +kernel
theorem dL_law_1104 : decode cL_law 1104 = .ok (.iconst 1, 1) := by decide +kernel
theorem dL_law_1105 : decode cL_law 1105 = .ok (.iadd, 1) := by decide +kernel
theorem dL_law_1106 : decode cL_law 1106 = .ok (.iaload, 1) := by decide +kernel
theorem dL_law_1107 : decode cL_law 1107 = .ok (.aload_n 3, 1) := by decide +kernel
theorem dL_law_1108 : decode cL_law 1108 = .ok (.invokestatic 223, 3) := by decide +kernel
theorem dL_law_1111 : decode cL_law 1111 = .ok (.istore 6, 2) := by decide +kernel
theorem dL_law_1113 : decode cL_law 1113 = .ok (.aload_n 2, 1) := by decide +kernel
theorem dL_law_1114 : decode cL_law 1114 = .ok (.aload_n 0, 1) := by decide +kernel
theorem dL_law_1115 : decode cL_law 1115 = .ok (.iload 5, 2) := by decide +kernel
theorem dL_law_1117 : decode cL_law 1117 = .ok (.iconst 1, 1) := by decide +kernel
theorem dL_law_1118 : decode cL_law 1118 = .ok (.iadd, 1) := by decide +kernel
theorem dL_law_1119 : decode cL_law 1119 = .ok (.iaload, 1) := by decide +kernel
theorem dL_law_1120 : decode cL_law 1120 = .ok (.invokevirtual 225, 3) := by decide +kernel
theorem dL_law_1123 : decode cL_law 1123 = .ok (.istore 7, 2) := by decide +kernel
theorem dL_law_1125 : decode cL_law 1125 = .ok (.aload_n 2, 1) := by decide +kernel
theorem dL_law_1126 : decode cL_law 1126 = .ok (.invokevirtual 183, 3) := by decide +kernel
theorem dL_law_1129 : decode cL_law 1129 = .ok (.iload 6, 2) := by decide +kernel
theorem dL_law_1131 : decode cL_law 1131 = .ok (.if_icmp .eq 5, 3) := by decide +kernel
theorem dL_law_1136 : decode cL_law 1136 = .ok (.iload 6, 2) := by decide +kernel
theorem dL_law_1138 : decode cL_law 1138 = .ok (.ifCond .ne 15, 3) := by decide +kernel
theorem dL_law_1153 : decode cL_law 1153 = .ok (.goto 2276, 3) := by decide +kernel
theorem dL_law_1156 : decode cL_law 1156 = .ok (.aload_n 1, 1) := by decide +kernel
theorem dL_law_1157 : decode cL_law 1157 = .ok (.aload_n 0, 1) := by decide +kernel
theorem dL_law_1158 : decode cL_law 1158 = .ok (.iload 5, 2) := by decide +kernel
theorem dL_law_1160 : decode cL_law 1160 = .ok (.iconst 1, 1) := by decide +kernel
theorem dL_law_1161 : decode cL_law 1161 = .ok (.iadd, 1) := by decide +kernel
theorem dL_law_1162 : decode cL_law 1162 = .ok (.iaload, 1) := by decide +kernel
theorem dL_law_1163 : decode cL_law 1163 = .ok (.aload_n 3, 1) := by decide +kernel
theorem dL_law_1164 : decode cL_law 1164 = .ok (.invokestatic 226, 3) := by decide +kernel
theorem dL_law_1167 : decode cL_law 1167 = .ok (.istore 6, 2) := by decide +kernel
theorem dL_law_1169 : decode cL_law 1169 = .ok (.aload_n 2, 1) := by decide +kernel
theorem dL_law_1170 : decode cL_law 1170 = .ok (.aload_n 0, 1) := by decide +kernel
theorem dL_law_1171 : decode cL_law 1171 = .ok (.iload 5, 2) := by decide +kernel
theorem dL_law_1173 : decode cL_law 1173 = .ok (.iconst 1, 1) := by decide +kernel
theorem dL_law_1174 : decode cL_law 1174 = .ok (.iadd, 1) := by decide +kernel
theorem dL_law_1175 : decode cL_law 1175 = .ok (.iaload, 1) := by decide +kernel
theorem dL_law_1176 : decode cL_law 1176 = .ok (.invokevirtual 228, 3) := by decide +kernel
theorem dL_law_1179 : decode cL_law 1179 = .ok (.istore 7, 2) := by decide +kernel
theorem dL_law_1181 : decode cL_law 1181 = .ok (.aload_n 2, 1) := by decide +kernel
theorem dL_law_1182 : decode cL_law 1182 = .ok (.invokevirtual 183, 3) := by decide +kernel
theorem dL_law_1185 : decode cL_law 1185 = .ok (.iload 6, 2) := by decide +kernel
theorem dL_law_1187 : decode cL_law 1187 = .ok (.if_icmp .eq 5, 3) := by decide +kernel
theorem dL_law_1192 : decode cL_law 1192 = .ok (.iload 6, 2) := by decide +kernel
theorem dL_law_1194 : decode cL_law 1194 = .ok (.ifCond .ne 15, 3) := by decide +kernel
theorem dL_law_1209 : decode cL_law 1209 = .ok (.goto 2220, 3) := by decide +kernel
theorem dL_law_1212 : decode cL_law 1212 = .ok (.aload_n 1, 1) := by decide +kernel
theorem dL_law_1213 : decode cL_law 1213 = .ok (.aload_n 0, 1) := by decide +kernel
theorem dL_law_1214 : decode cL_law 1214 = .ok (.iload 5, 2) := by decide +kernel
theorem dL_law_1216 : decode cL_law 1216 = .ok (.iconst 1, 1) := by decide +kernel
theorem dL_law_1217 : decode cL_law 1217 = .ok (.iadd, 1) := by decide +kernel
theorem dL_law_1218 : decode cL_law 1218 = .ok (.iaload, 1) := by decide +kernel
theorem dL_law_1219 : decode cL_law 1219 = .ok (.aload_n 0, 1) := by decide +kernel
theorem dL_law_1220 : decode cL_law 1220 = .ok (.iload 5, 2) := by decide +kernel
theorem dL_law_1222 : decode cL_law 1222 = .ok (.iconst 2, 1) := by decide +kernel
theorem dL_law_1223 : decode cL_law 1223 = .ok (.iadd, 1) := by decide +kernel
theorem dL_law_1224 : decode cL_law 1224 = .ok (.iaload, 1) := by decide +kernel
theorem dL_law_1225 : decode cL_law 1225 = .ok (.aload_n 3, 1) := by decide +kernel
theorem dL_law_1226 : decode cL_law 1226 = .ok (.invokestatic 229, 3) := by decide +kernel
theorem dL_law_1229 : decode cL_law 1229 = .ok (.istore 6, 2) := by decide +kernel
theorem dL_law_1231 : decode cL_law 1231 = .ok (.aload_n 2, 1) := by decide +kernel
theorem dL_law_1232 : decode cL_law 1232 = .ok (.aload_n 0, 1) := by decide +kernel
theorem dL_law_1233 : decode cL_law 1233 = .ok (.iload 5, 2) := by decide +kernel
theorem dL_law_1235 : decode cL_law 1235 = .ok (.iconst 1, 1) := by decide +kernel
theorem dL_law_1236 : decode cL_law 1236 = .ok (.iadd, 1) := by decide +kernel
theorem dL_law_1237 : decode cL_law 1237 = .ok (.iaload, 1) := by decide +kernel
theorem dL_law_1238 : decode cL_law 1238 = .ok (.aload_n 0, 1) := by decide +kernel
theorem dL_law_1239 : decode cL_law 1239 = .ok (.iload 5, 2) := by decide +kernel
theorem dL_law_1241 : decode cL_law 1241 = .ok (.iconst 2, 1) := by decide +kernel
theorem dL_law_1242 : decode cL_law 1242 = .ok (.iadd, 1) := by decide +kernel
theorem dL_law_1243 : decode cL_law 1243 = .ok (.iaload, 1) := by decide +kernel
theorem dL_law_1244 : decode cL_law 1244 = .ok (.invokevirtual 231, 3) := by decide +kernel
theorem dL_law_1247 : decode cL_law 1247 = .ok (.istore 7, 2) := by decide +kernel
theorem dL_law_1249 : decode cL_law 1249 = .ok (.aload_n 2, 1) := by decide +kernel
theorem dL_law_1250 : decode cL_law 1250 = .ok (.invokevirtual 183, 3) := by decide +kernel
theorem dL_law_1253 : decode cL_law 1253 = .ok (.iload 6, 2) := by decide +kernel
theorem dL_law_1255 : decode cL_law 1255 = .ok (.if_icmp .eq 5, 3) := by decide +kernel
theorem dL_law_1260 : decode cL_law 1260 = .ok (.iload 6, 2) := by decide +kernel
theorem dL_law_1262 : decode cL_law 1262 = .ok (.ifCond .ne 15, 3) := by decide +kernel
theorem dL_law_1277 : decode cL_law 1277 = .ok (.goto 2152, 3) := by decide +kernel
theorem dL_law_1280 : decode cL_law 1280 = .ok (.aload_n 1, 1) := by decide +kernel
theorem dL_law_1281 : decode cL_law 1281 = .ok (.aload_n 0, 1) := by decide +kernel
theorem dL_law_1282 : decode cL_law 1282 = .ok (.iload 5, 2) := by decide +kernel
theorem dL_law_1284 : decode cL_law 1284 = .ok (.iconst 1, 1) := by decide +kernel
theorem dL_law_1285 : decode cL_law 1285 = .ok (.iadd, 1) := by decide +kernel
theorem dL_law_1286 : decode cL_law 1286 = .ok (.iaload, 1) := by decide +kernel
theorem dL_law_1287 : decode cL_law 1287 = .ok (.aload_n 3, 1) := by decide +kernel
theorem dL_law_1288 : decode cL_law 1288 = .ok (.invokestatic 232, 3) := by decide +kernel
theorem dL_law_1291 : decode cL_law 1291 = .ok (.istore 6, 2) := by decide +kernel
theorem dL_law_1293 : decode cL_law 1293 = .ok (.aload_n 2, 1) := by decide +kernel
theorem dL_law_1294 : decode cL_law 1294 = .ok (.aload_n 0, 1) := by decide +kernel
theorem dL_law_1295 : decode cL_law 1295 = .ok (.iload 5, 2) := by decide +kernel
theorem dL_law_1297 : decode cL_law 1297 = .ok (.iconst 1, 1) := by decide +kernel
theorem dL_law_1298 : decode cL_law 1298 = .ok (.iadd, 1) := by decide +kernel
theorem dL_law_1299 : decode cL_law 1299 = .ok (.iaload, 1) := by decide +kernel
theorem dL_law_1300 : decode cL_law 1300 = .ok (.invokevirtual 234, 3) := by decide +kernel
theorem dL_law_1303 : decode cL_law 1303 = .ok (.istore 7, 2) := by decide +kernel
theorem dL_law_1305 : decode cL_law 1305 = .ok (.aload_n 2, 1) := by decide +kernel
theorem dL_law_1306 : decode cL_law 1306 = .ok (.invokevirtual 183, 3) := by decide +kernel
theorem dL_law_1309 : decode cL_law 1309 = .ok (.iload 6, 2) := by decide +kernel
theorem dL_law_1311 : decode cL_law 1311 = .ok (.if_icmp .eq 5, 3) := by decide +kernel
theorem dL_law_1316 : decode cL_law 1316 = .ok (.iload 6, 2) := by decide +kernel
theorem dL_law_1318 : decode cL_law 1318 = .ok (.ifCond .ne 15, 3) := by decide +kernel
theorem dL_law_1333 : decode cL_law 1333 = .ok (.goto 2096, 3) := by decide +kernel
theorem dL_law_1336 : decode cL_law 1336 = .ok (.aload_n 1, 1) := by decide +kernel
theorem dL_law_1337 : decode cL_law 1337 = .ok (.aload_n 0, 1) := by decide +kernel
theorem dL_law_1338 : decode cL_law 1338 = .ok (.iload 5, 2) := by decide +kernel
theorem dL_law_1340 : decode cL_law 1340 = .ok (.iconst 1, 1) := by decide +kernel
theorem dL_law_1341 : decode cL_law 1341 = .ok (.iadd, 1) := by decide +kernel
theorem dL_law_1342 : decode cL_law 1342 = .ok (.iaload, 1) := by decide +kernel
theorem dL_law_1343 : decode cL_law 1343 = .ok (.aload_n 3, 1) := by decide +kernel
theorem dL_law_1344 : decode cL_law 1344 = .ok (.invokestatic 235, 3) := by decide +kernel
theorem dL_law_1347 : decode cL_law 1347 = .ok (.istore 6, 2) := by decide +kernel
theorem dL_law_1349 : decode cL_law 1349 = .ok (.aload_n 2, 1) := by decide +kernel
theorem dL_law_1350 : decode cL_law 1350 = .ok (.aload_n 0, 1) := by decide +kernel
theorem dL_law_1351 : decode cL_law 1351 = .ok (.iload 5, 2) := by decide +kernel
theorem dL_law_1353 : decode cL_law 1353 = .ok (.iconst 1, 1) := by decide +kernel
theorem dL_law_1354 : decode cL_law 1354 = .ok (.iadd, 1) := by decide +kernel
theorem dL_law_1355 : decode cL_law 1355 = .ok (.iaload, 1) := by decide +kernel
theorem dL_law_1356 : decode cL_law 1356 = .ok (.invokevirtual 237, 3) := by decide +kernel
theorem dL_law_1359 : decode cL_law 1359 = .ok (.istore 7, 2) := by decide +kernel
theorem dL_law_1361 : decode cL_law 1361 = .ok (.aload_n 2, 1) := by decide +kernel
theorem dL_law_1362 : decode cL_law 1362 = .ok (.invokevirtual 183, 3) := by decide +kernel
theorem dL_law_1365 : decode cL_law 1365 = .ok (.iload 6, 2) := by decide +kernel
theorem dL_law_1367 : decode cL_law 1367 = .ok (.if_icmp .eq 5, 3) := by decide +kernel
theorem dL_law_1372 : decode cL_law 1372 = .ok (.iload 6, 2) := by decide +kernel
theorem dL_law_1374 : decode cL_law 1374 = .ok (.ifCond .ne 15, 3) := by decide +kernel
theorem dL_law_1389 : decode cL_law 1389 = .ok (.goto 2040, 3) := by decide +kernel
theorem dL_law_1392 : decode cL_law 1392 = .ok (.aload_n 1, 1) := by decide +kernel
theorem dL_law_1393 : decode cL_law 1393 = .ok (.aload_n 0, 1) := by decide +kernel
theorem dL_law_1394 : decode cL_law 1394 = .ok (.iload 5, 2) := by decide +kernel
theorem dL_law_1396 : decode cL_law 1396 = .ok (.iconst 1, 1) := by decide +kernel
theorem dL_law_1397 : decode cL_law 1397 = .ok (.iadd, 1) := by decide +kernel
theorem dL_law_1398 : decode cL_law 1398 = .ok (.iaload, 1) := by decide +kernel
theorem dL_law_1399 : decode cL_law 1399 = .ok (.aload_n 0, 1) := by decide +kernel
theorem dL_law_1400 : decode cL_law 1400 = .ok (.iload 5, 2) := by decide +kernel
theorem dL_law_1402 : decode cL_law 1402 = .ok (.iconst 2, 1) := by decide +kernel
theorem dL_law_1403 : decode cL_law 1403 = .ok (.iadd, 1) := by decide +kernel
theorem dL_law_1404 : decode cL_law 1404 = .ok (.iaload, 1) := by decide +kernel
theorem dL_law_1405 : decode cL_law 1405 = .ok (.aload_n 3, 1) := by decide +kernel
theorem dL_law_1406 : decode cL_law 1406 = .ok (.invokestatic 238, 3) := by decide +kernel
theorem dL_law_1409 : decode cL_law 1409 = .ok (.istore 6, 2) := by decide +kernel
theorem dL_law_1411 : decode cL_law 1411 = .ok (.aload_n 2, 1) := by decide +kernel
theorem dL_law_1412 : decode cL_law 1412 = .ok (.aload_n 0, 1) := by decide +kernel
theorem dL_law_1413 : decode cL_law 1413 = .ok (.iload 5, 2) := by decide +kernel
theorem dL_law_1415 : decode cL_law 1415 = .ok (.iconst 1, 1) := by decide +kernel
theorem dL_law_1416 : decode cL_law 1416 = .ok (.iadd, 1) := by decide +kernel
theorem dL_law_1417 : decode cL_law 1417 = .ok (.iaload, 1) := by decide +kernel
theorem dL_law_1418 : decode cL_law 1418 = .ok (.aload_n 0, 1) := by decide +kernel
theorem dL_law_1419 : decode cL_law 1419 = .ok (.iload 5, 2) := by decide +kernel
theorem dL_law_1421 : decode cL_law 1421 = .ok (.iconst 2, 1) := by decide +kernel
theorem dL_law_1422 : decode cL_law 1422 = .ok (.iadd, 1) := by decide +kernel
theorem dL_law_1423 : decode cL_law 1423 = .ok (.iaload, 1) := by decide +kernel
theorem dL_law_1424 : decode cL_law 1424 = .ok (.invokevirtual 240, 3) := by decide +kernel
theorem dL_law_1427 : decode cL_law 1427 = .ok (.istore 7, 2) := by decide +kernel
theorem dL_law_1429 : decode cL_law 1429 = .ok (.aload_n 2, 1) := by decide +kernel
theorem dL_law_1430 : decode cL_law 1430 = .ok (.invokevirtual 183, 3) := by decide +kernel
theorem dL_law_1433 : decode cL_law 1433 = .ok (.iload 6, 2) := by decide +kernel
theorem dL_law_1435 : decode cL_law 1435 = .ok (.if_icmp .eq 5, 3) := by decide +kernel
theorem dL_law_1440 : decode cL_law 1440 = .ok (.iload 6, 2) := by decide +kernel
theorem dL_law_1442 : decode cL_law 1442 = .ok (.ifCond .ne 15, 3) := by decide +kernel
theorem dL_law_1457 : decode cL_law 1457 = .ok (.goto 1972, 3) := by decide +kernel
theorem dL_law_1460 : decode cL_law 1460 = .ok (.aload_n 1, 1) := by decide +kernel
theorem dL_law_1461 : decode cL_law 1461 = .ok (.aload_n 0, 1) := by decide +kernel
theorem dL_law_1462 : decode cL_law 1462 = .ok (.iload 5, 2) := by decide +kernel
theorem dL_law_1464 : decode cL_law 1464 = .ok (.iconst 1, 1) := by decide +kernel
theorem dL_law_1465 : decode cL_law 1465 = .ok (.iadd, 1) := by decide +kernel
theorem dL_law_1466 : decode cL_law 1466 = .ok (.iaload, 1) := by decide +kernel
theorem dL_law_1467 : decode cL_law 1467 = .ok (.aload_n 0, 1) := by decide +kernel
theorem dL_law_1468 : decode cL_law 1468 = .ok (.iload 5, 2) := by decide +kernel
theorem dL_law_1470 : decode cL_law 1470 = .ok (.iconst 2, 1) := by decide +kernel
theorem dL_law_1471 : decode cL_law 1471 = .ok (.iadd, 1) := by decide +kernel
theorem dL_law_1472 : decode cL_law 1472 = .ok (.iaload, 1) := by decide +kernel
theorem dL_law_1473 : decode cL_law 1473 = .ok (.ifCond .eq 7, 3) := by decide +kernel
theorem dL_law_1476 : decode cL_law 1476 = .ok (.iconst 1, 1) := by decide +kernel
theorem dL_law_1477 : decode cL_law 1477 = .ok (.goto 4, 3) := by decide +kernel
theorem dL_law_1480 : decode cL_law 1480 = .ok (.iconst 0, 1) := by decide +kernel
theorem dL_law_1481 : decode cL_law 1481 = .ok (.aload_n 3, 1) := by decide +kernel
theorem dL_law_1482 : decode cL_law 1482 = .ok (.invokestatic 241, 3) := by decide +kernel
theorem dL_law_1485 : decode cL_law 1485 = .ok (.istore 6, 2) := by decide +kernel
theorem dL_law_1487 : decode cL_law 1487 = .ok (.aload_n 2, 1) := by decide +kernel
theorem dL_law_1488 : decode cL_law 1488 = .ok (.aload_n 0, 1) := by decide +kernel
theorem dL_law_1489 : decode cL_law 1489 = .ok (.iload 5, 2) := by decide +kernel
theorem dL_law_1491 : decode cL_law 1491 = .ok (.iconst 1, 1) := by decide +kernel
theorem dL_law_1492 : decode cL_law 1492 = .ok (.iadd, 1) := by decide +kernel
theorem dL_law_1493 : decode cL_law 1493 = .ok (.iaload, 1) := by decide +kernel
theorem dL_law_1494 : decode cL_law 1494 = .ok (.aload_n 0, 1) := by decide +kernel
theorem dL_law_1495 : decode cL_law 1495 = .ok (.iload 5, 2) := by decide +kernel
theorem dL_law_1497 : decode cL_law 1497 = .ok (.iconst 2, 1) := by decide +kernel
theorem dL_law_1498 : decode cL_law 1498 = .ok (.iadd, 1) := by decide +kernel
theorem dL_law_1499 : decode cL_law 1499 = .ok (.iaload, 1) := by decide +kernel
theorem dL_law_1500 : decode cL_law 1500 = .ok (.ifCond .eq 7, 3) := by decide +kernel
theorem dL_law_1503 : decode cL_law 1503 = .ok (.iconst 1, 1) := by decide +kernel
theorem dL_law_1504 : decode cL_law 1504 = .ok (.goto 4, 3) := by decide +kernel
theorem dL_law_1507 : decode cL_law 1507 = .ok (.iconst 0, 1) := by decide +kernel
theorem dL_law_1508 : decode cL_law 1508 = .ok (.invokevirtual 244, 3) := by decide +kernel
theorem dL_law_1511 : decode cL_law 1511 = .ok (.istore 7, 2) := by decide +kernel
theorem dL_law_1513 : decode cL_law 1513 = .ok (.aload_n 2, 1) := by decide +kernel
theorem dL_law_1514 : decode cL_law 1514 = .ok (.invokevirtual 183, 3) := by decide +kernel
theorem dL_law_1517 : decode cL_law 1517 = .ok (.iload 6, 2) := by decide +kernel
theorem dL_law_1519 : decode cL_law 1519 = .ok (.if_icmp .eq 5, 3) := by decide +kernel
theorem dL_law_1524 : decode cL_law 1524 = .ok (.iload 6, 2) := by decide +kernel
theorem dL_law_1526 : decode cL_law 1526 = .ok (.ifCond .ne 22, 3) := by decide +kernel
theorem dL_law_1548 : decode cL_law 1548 = .ok (.goto 1881, 3) := by decide +kernel
theorem dL_law_1551 : decode cL_law 1551 = .ok (.aload_n 1, 1) := by decide +kernel
theorem dL_law_1552 : decode cL_law 1552 = .ok (.aload_n 0, 1) := by decide +kernel
theorem dL_law_1553 : decode cL_law 1553 = .ok (.iload 5, 2) := by decide +kernel
theorem dL_law_1555 : decode cL_law 1555 = .ok (.iconst 1, 1) := by decide +kernel
theorem dL_law_1556 : decode cL_law 1556 = .ok (.iadd, 1) := by decide +kernel
theorem dL_law_1557 : decode cL_law 1557 = .ok (.iaload, 1) := by decide +kernel
theorem dL_law_1558 : decode cL_law 1558 = .ok (.aload_n 0, 1) := by decide +kernel
theorem dL_law_1559 : decode cL_law 1559 = .ok (.iload 5, 2) := by decide +kernel
theorem dL_law_1561 : decode cL_law 1561 = .ok (.iconst 2, 1) := by decide +kernel
theorem dL_law_1562 : decode cL_law 1562 = .ok (.iadd, 1) := by decide +kernel
theorem dL_law_1563 : decode cL_law 1563 = .ok (.iaload, 1) := by decide +kernel
theorem dL_law_1564 : decode cL_law 1564 = .ok (.aload_n 3, 1) := by decide +kernel
theorem dL_law_1565 : decode cL_law 1565 = .ok (.invokestatic 245, 3) := by decide +kernel
theorem dL_law_1568 : decode cL_law 1568 = .ok (.istore 6, 2) := by decide +kernel
theorem dL_law_1570 : decode cL_law 1570 = .ok (.aload_n 2, 1) := by decide +kernel
theorem dL_law_1571 : decode cL_law 1571 = .ok (.aload_n 0, 1) := by decide +kernel
theorem dL_law_1572 : decode cL_law 1572 = .ok (.iload 5, 2) := by decide +kernel
theorem dL_law_1574 : decode cL_law 1574 = .ok (.iconst 1, 1) := by decide +kernel
theorem dL_law_1575 : decode cL_law 1575 = .ok (.iadd, 1) := by decide +kernel
theorem dL_law_1576 : decode cL_law 1576 = .ok (.iaload, 1) := by decide +kernel
theorem dL_law_1577 : decode cL_law 1577 = .ok (.aload_n 0, 1) := by decide +kernel
theorem dL_law_1578 : decode cL_law 1578 = .ok (.iload 5, 2) := by decide +kernel
theorem dL_law_1580 : decode cL_law 1580 = .ok (.iconst 2, 1) := by decide +kernel
theorem dL_law_1581 : decode cL_law 1581 = .ok (.iadd, 1) := by decide +kernel
theorem dL_law_1582 : decode cL_law 1582 = .ok (.iaload, 1) := by decide +kernel
theorem dL_law_1583 : decode cL_law 1583 = .ok (.invokevirtual 247, 3) := by decide +kernel
theorem dL_law_1586 : decode cL_law 1586 = .ok (.istore 7, 2) := by decide +kernel
theorem dL_law_1588 : decode cL_law 1588 = .ok (.aload_n 2, 1) := by decide +kernel
theorem dL_law_1589 : decode cL_law 1589 = .ok (.invokevirtual 183, 3) := by decide +kernel
theorem dL_law_1592 : decode cL_law 1592 = .ok (.iload 6, 2) := by decide +kernel
theorem dL_law_1594 : decode cL_law 1594 = .ok (.if_icmp .eq 5, 3) := by decide +kernel
theorem dL_law_1599 : decode cL_law 1599 = .ok (.iload 6, 2) := by decide +kernel
theorem dL_law_1601 : decode cL_law 1601 = .ok (.ifCond .ne 15, 3) := by decide +kernel
theorem dL_law_1616 : decode cL_law 1616 = .ok (.goto 1813, 3) := by decide +kernel
theorem dL_law_1619 : decode cL_law 1619 = .ok (.aload_n 1, 1) := by decide +kernel
theorem dL_law_1620 : decode cL_law 1620 = .ok (.aload_n 0, 1) := by decide +kernel
theorem dL_law_1621 : decode cL_law 1621 = .ok (.iload 5, 2) := by decide +kernel
theorem dL_law_1623 : decode cL_law 1623 = .ok (.iconst 1, 1) := by decide +kernel
theorem dL_law_1624 : decode cL_law 1624 = .ok (.iadd, 1) := by decide +kernel
theorem dL_law_1625 : decode cL_law 1625 = .ok (.iaload, 1) := by decide +kernel
theorem dL_law_1626 : decode cL_law 1626 = .ok (.aload_n 3, 1) := by decide +kernel
theorem dL_law_1627 : decode cL_law 1627 = .ok (.invokestatic 248, 3) := by decide +kernel
theorem dL_law_1630 : decode cL_law 1630 = .ok (.istore 6, 2) := by decide +kernel
theorem dL_law_1632 : decode cL_law 1632 = .ok (.aload_n 2, 1) := by decide +kernel
theorem dL_law_1633 : decode cL_law 1633 = .ok (.aload_n 0, 1) := by decide +kernel
theorem dL_law_1634 : decode cL_law 1634 = .ok (.iload 5, 2) := by decide +kernel
theorem dL_law_1636 : decode cL_law 1636 = .ok (.iconst 1, 1) := by decide +kernel
theorem dL_law_1637 : decode cL_law 1637 = .ok (.iadd, 1) := by decide +kernel
theorem dL_law_1638 : decode cL_law 1638 = .ok (.iaload, 1) := by decide +kernel
theorem dL_law_1639 : decode cL_law 1639 = .ok (.invokevirtual 250, 3) := by decide +kernel
theorem dL_law_1642 : decode cL_law 1642 = .ok (.istore 7, 2) := by decide +kernel
theorem dL_law_1644 : decode cL_law 1644 = .ok (.aload_n 2, 1) := by decide +kernel
theorem dL_law_1645 : decode cL_law 1645 = .ok (.invokevirtual 183, 3) := by decide +kernel
theorem dL_law_1648 : decode cL_law 1648 = .ok (.iload 6, 2) := by decide +kernel
theorem dL_law_1650 : decode cL_law 1650 = .ok (.if_icmp .eq 5, 3) := by decide +kernel
theorem dL_law_1655 : decode cL_law 1655 = .ok (.iload 6, 2) := by decide +kernel
theorem dL_law_1657 : decode cL_law 1657 = .ok (.ifCond .ne 15, 3) := by decide +kernel
theorem dL_law_1672 : decode cL_law 1672 = .ok (.goto 1757, 3) := by decide +kernel
theorem dL_law_1675 : decode cL_law 1675 = .ok (.aload_n 1, 1) := by decide +kernel
theorem dL_law_1676 : decode cL_law 1676 = .ok (.invokevirtual 251, 3) := by decide +kernel
theorem dL_law_1679 : decode cL_law 1679 = .ok (.aload_n 2, 1) := by decide +kernel
theorem dL_law_1680 : decode cL_law 1680 = .ok (.invokevirtual 254, 3) := by decide +kernel
theorem dL_law_1683 : decode cL_law 1683 = .ok (.if_icmp .eq 1746, 3) := by decide +kernel
theorem dL_law_1688 : decode cL_law 1688 = .ok (.aload_n 1, 1) := by decide +kernel
theorem dL_law_1689 : decode cL_law 1689 = .ok (.aload_n 0, 1) := by decide +kernel
theorem dL_law_1690 : decode cL_law 1690 = .ok (.iload 5, 2) := by decide +kernel
theorem dL_law_1692 : decode cL_law 1692 = .ok (.iconst 1, 1) := by decide +kernel
theorem dL_law_1693 : decode cL_law 1693 = .ok (.iadd, 1) := by decide +kernel
theorem dL_law_1694 : decode cL_law 1694 = .ok (.iaload, 1) := by decide +kernel
theorem dL_law_1695 : decode cL_law 1695 = .ok (.aload_n 3, 1) := by decide +kernel
theorem dL_law_1696 : decode cL_law 1696 = .ok (.invokestatic 255, 3) := by decide +kernel
theorem dL_law_1699 : decode cL_law 1699 = .ok (.istore 6, 2) := by decide +kernel
theorem dL_law_1701 : decode cL_law 1701 = .ok (.aload_n 2, 1) := by decide +kernel
theorem dL_law_1702 : decode cL_law 1702 = .ok (.aload_n 0, 1) := by decide +kernel
theorem dL_law_1703 : decode cL_law 1703 = .ok (.iload 5, 2) := by decide +kernel
theorem dL_law_1705 : decode cL_law 1705 = .ok (.iconst 1, 1) := by decide +kernel
theorem dL_law_1706 : decode cL_law 1706 = .ok (.iadd, 1) := by decide +kernel
theorem dL_law_1707 : decode cL_law 1707 = .ok (.iaload, 1) := by decide +kernel
theorem dL_law_1708 : decode cL_law 1708 = .ok (.invokevirtual 257, 3) := by decide +kernel
theorem dL_law_1711 : decode cL_law 1711 = .ok (.istore 7, 2) := by decide +kernel
theorem dL_law_1713 : decode cL_law 1713 = .ok (.aload_n 2, 1) := by decide +kernel
theorem dL_law_1714 : decode cL_law 1714 = .ok (.invokevirtual 183, 3) := by decide +kernel
theorem dL_law_1717 : decode cL_law 1717 = .ok (.iload 6, 2) := by decide +kernel
theorem dL_law_1719 : decode cL_law 1719 = .ok (.if_icmp .eq 5, 3) := by decide +kernel
theorem dL_law_1724 : decode cL_law 1724 = .ok (.iload 6, 2) := by decide +kernel
theorem dL_law_1726 : decode cL_law 1726 = .ok (.ifCond .ne 15, 3) := by decide +kernel
theorem dL_law_1741 : decode cL_law 1741 = .ok (.goto 1688, 3) := by decide +kernel
theorem dL_law_1744 : decode cL_law 1744 = .ok (.aload_n 1, 1) := by decide +kernel
theorem dL_law_1745 : decode cL_law 1745 = .ok (.aload_n 0, 1) := by decide +kernel
theorem dL_law_1746 : decode cL_law 1746 = .ok (.iload 5, 2) := by decide +kernel
theorem dL_law_1748 : decode cL_law 1748 = .ok (.iconst 1, 1) := by decide +kernel
theorem dL_law_1749 : decode cL_law 1749 = .ok (.iadd, 1) := by decide +kernel
theorem dL_law_1750 : decode cL_law 1750 = .ok (.iaload, 1) := by decide +kernel
theorem dL_law_1751 : decode cL_law 1751 = .ok (.aload_n 3, 1) := by decide +kernel
theorem dL_law_1752 : decode cL_law 1752 = .ok (.invokestatic 258, 3) := by decide +kernel
theorem dL_law_1755 : decode cL_law 1755 = .ok (.istore 6, 2) := by decide +kernel
theorem dL_law_1757 : decode cL_law 1757 = .ok (.aload_n 2, 1) := by decide +kernel
theorem dL_law_1758 : decode cL_law 1758 = .ok (.aload_n 0, 1) := by decide +kernel
theorem dL_law_1759 : decode cL_law 1759 = .ok (.iload 5, 2) := by decide +kernel
theorem dL_law_1761 : decode cL_law 1761 = .ok (.iconst 1, 1) := by decide +kernel
theorem dL_law_1762 : decode cL_law 1762 = .ok (.iadd, 1) := by decide +kernel
theorem dL_law_1763 : decode cL_law 1763 = .ok (.iaload, 1) := by decide +kernel
theorem dL_law_1764 : decode cL_law 1764 = .ok (.invokevirtual 260, 3) := by decide +kernel
theorem dL_law_1767 : decode cL_law 1767 = .ok (.istore 7, 2) := by decide +kernel
theorem dL_law_1769 : decode cL_law 1769 = .ok (.aload_n 2, 1) := by decide +kernel
theorem dL_law_1770 : decode cL_law 1770 = .ok (.invokevirtual 183, 3) := by decide +kernel
theorem dL_law_1773 : decode cL_law 1773 = .ok (.iload 6, 2) := by decide +kernel
theorem dL_law_1775 : decode cL_law 1775 = .ok (.if_icmp .eq 5, 3) := by decide +kernel
theorem dL_law_1780 : decode cL_law 1780 = .ok (.iload 6, 2) := by decide +kernel
theorem dL_law_1782 : decode cL_law 1782 = .ok (.ifCond .ne 15, 3) := by decide +kernel
theorem dL_law_1785 : decode cL_law 1785 = .ok (.aload_n 3, 1) := by decide +kernel
theorem dL_law_1786 : decode cL_law 1786 = .ok (.iconst 0, 1) := by decide +kernel
theorem dL_law_1787 : decode cL_law 1787 = .ok (.laload, 1) := by decide +kernel
theorem dL_law_1788 : decode cL_law 1788 = .ok (.iload 7, 2) := by decide +kernel
theorem dL_law_1790 : decode cL_law 1790 = .ok (.i2l, 1) := by decide +kernel
theorem dL_law_1791 : decode cL_law 1791 = .ok (.lcmp, 1) := by decide +kernel
theorem dL_law_1792 : decode cL_law 1792 = .ok (.ifCond .eq 5, 3) := by decide +kernel
theorem dL_law_1797 : decode cL_law 1797 = .ok (.goto 1632, 3) := by decide +kernel
theorem dL_law_1800 : decode cL_law 1800 = .ok (.aload_n 1, 1) := by decide +kernel
theorem dL_law_1801 : decode cL_law 1801 = .ok (.aload_n 0, 1) := by decide +kernel
theorem dL_law_1802 : decode cL_law 1802 = .ok (.iload 5, 2) := by decide +kernel
theorem dL_law_1804 : decode cL_law 1804 = .ok (.iconst 1, 1) := by decide +kernel
theorem dL_law_1805 : decode cL_law 1805 = .ok (.iadd, 1) := by decide +kernel
theorem dL_law_1806 : decode cL_law 1806 = .ok (.iaload, 1) := by decide +kernel
theorem dL_law_1807 : decode cL_law 1807 = .ok (.aload_n 0, 1) := by decide +kernel
theorem dL_law_1808 : decode cL_law 1808 = .ok (.iload 5, 2) := by decide +kernel
theorem dL_law_1810 : decode cL_law 1810 = .ok (.iconst 2, 1) := by decide +kernel
theorem dL_law_1811 : decode cL_law 1811 = .ok (.iadd, 1) := by decide +kernel
theorem dL_law_1812 : decode cL_law 1812 = .ok (.iaload, 1) := by decide +kernel
theorem dL_law_1813 : decode cL_law 1813 = .ok (.aload_n 3, 1) := by decide +kernel
theorem dL_law_1814 : decode cL_law 1814 = .ok (.invokestatic 261, 3) := by decide +kernel
theorem dL_law_1817 : decode cL_law 1817 = .ok (.istore 6, 2) := by decide +kernel
theorem dL_law_1819 : decode cL_law 1819 = .ok (.aload_n 2, 1) := by decide +kernel
theorem dL_law_1820 : decode cL_law 1820 = .ok (.aload_n 0, 1) := by decide +kernel
theorem dL_law_1821 : decode cL_law 1821 = .ok (.iload 5, 2) := by decide +kernel
theorem dL_law_1823 : decode cL_law 1823 = .ok (.iconst 1, 1) := by decide +kernel
theorem dL_law_1824 : decode cL_law 1824 = .ok (.iadd, 1) := by decide +kernel
theorem dL_law_1825 : decode cL_law 1825 = .ok (.iaload, 1) := by decide +kernel
theorem dL_law_1826 : decode cL_law 1826 = .ok (.aload_n 0, 1) := by decide +kernel
theorem dL_law_1827 : decode cL_law 1827 = .ok (.iload 5, 2) := by decide +kernel
theorem dL_law_1829 : decode cL_law 1829 = .ok (.iconst 2, 1) := by decide +kernel
theorem dL_law_1830 : decode cL_law 1830 = .ok (.iadd, 1) := by decide +kernel
theorem dL_law_1831 : decode cL_law 1831 = .ok (.iaload, 1) := by decide +kernel
theorem dL_law_1832 : decode cL_law 1832 = .ok (.invokevirtual 263, 3) := by decide +kernel
theorem dL_law_1835 : decode cL_law 1835 = .ok (.istore 7, 2) := by decide +kernel
theorem dL_law_1837 : decode cL_law 1837 = .ok (.aload_n 2, 1) := by decide +kernel
theorem dL_law_1838 : decode cL_law 1838 = .ok (.invokevirtual 183, 3) := by decide +kernel
theorem dL_law_1841 : decode cL_law 1841 = .ok (.iload 6, 2) := by decide +kernel
theorem dL_law_1843 : decode cL_law 1843 = .ok (.if_icmp .eq 5, 3) := by decide +kernel
theorem dL_law_1848 : decode cL_law 1848 = .ok (.iload 6, 2) := by decide +kernel
theorem dL_law_1850 : decode cL_law 1850 = .ok (.ifCond .ne 15, 3) := by decide +kernel
theorem dL_law_1865 : decode cL_law 1865 = .ok (.goto 1564, 3) := by decide +kernel
theorem dL_law_1868 : decode cL_law 1868 = .ok (.aload_n 1, 1) := by decide +kernel
theorem dL_law_1869 : decode cL_law 1869 = .ok (.aload_n 0, 1) := by decide +kernel
theorem dL_law_1870 : decode cL_law 1870 = .ok (.iload 5, 2) := by decide +kernel
theorem dL_law_1872 : decode cL_law 1872 = .ok (.iconst 1, 1) := by decide +kernel
theorem dL_law_1873 : decode cL_law 1873 = .ok (.iadd, 1) := by decide +kernel
theorem dL_law_1874 : decode cL_law 1874 = .ok (.iaload, 1) := by decide +kernel
theorem dL_law_1875 : decode cL_law 1875 = .ok (.aload_n 0, 1) := by decide +kernel
theorem dL_law_1876 : decode cL_law 1876 = .ok (.iload 5, 2) := by decide +kernel
theorem dL_law_1878 : decode cL_law 1878 = .ok (.iconst 2, 1) := by decide +kernel
theorem dL_law_1879 : decode cL_law 1879 = .ok (.iadd, 1) := by decide +kernel
theorem dL_law_1880 : decode cL_law 1880 = .ok (.iaload, 1) := by decide +kernel
theorem dL_law_1881 : decode cL_law 1881 = .ok (.aload_n 3, 1) := by decide +kernel
theorem dL_law_1882 : decode cL_law 1882 = .ok (.invokestatic 264, 3) := by decide +kernel
theorem dL_law_1885 : decode cL_law 1885 = .ok (.istore 6, 2) := by decide +kernel
theorem dL_law_1887 : decode cL_law 1887 = .ok (.aload_n 2, 1) := by decide +kernel
theorem dL_law_1888 : decode cL_law 1888 = .ok (.aload_n 0, 1) := by decide +kernel
theorem dL_law_1889 : decode cL_law 1889 = .ok (.iload 5, 2) := by decide +kernel
theorem dL_law_1891 : decode cL_law 1891 = .ok (.iconst 1, 1) := by decide +kernel
theorem dL_law_1892 : decode cL_law 1892 = .ok (.iadd, 1) := by decide +kernel
theorem dL_law_1893 : decode cL_law 1893 = .ok (.iaload, 1) := by decide +kernel
theorem dL_law_1894 : decode cL_law 1894 = .ok (.aload_n 0, 1) := by decide +kernel
theorem dL_law_1895 : decode cL_law 1895 = .ok (.iload 5, 2) := by decide +kernel
theorem dL_law_1897 : decode cL_law 1897 = .ok (.iconst 2, 1) := by decide +kernel
theorem dL_law_1898 : decode cL_law 1898 = .ok (.iadd, 1) := by decide +kernel
theorem dL_law_1899 : decode cL_law 1899 = .ok (.iaload, 1) := by decide +kernel
theorem dL_law_1900 : decode cL_law 1900 = .ok (.invokevirtual 266, 3) := by decide +kernel
theorem dL_law_1903 : decode cL_law 1903 = .ok (.istore 7, 2) := by decide +kernel
theorem dL_law_1905 : decode cL_law 1905 = .ok (.aload_n 2, 1) := by decide +kernel
theorem dL_law_1906 : decode cL_law 1906 = .ok (.invokevirtual 183, 3) := by decide +kernel
theorem dL_law_1909 : decode cL_law 1909 = .ok (.iload 6, 2) := by decide +kernel
theorem dL_law_1911 : decode cL_law 1911 = .ok (.if_icmp .eq 5, 3) := by decide +kernel
theorem dL_law_1916 : decode cL_law 1916 = .ok (.iload 6, 2) := by decide +kernel
theorem dL_law_1918 : decode cL_law 1918 = .ok (.ifCond .ne 15, 3) := by decide +kernel
theorem dL_law_1933 : decode cL_law 1933 = .ok (.goto 1496, 3) := by decide +kernel
theorem dL_law_1936 : decode cL_law 1936 = .ok (.aload_n 1, 1) := by decide +kernel
theorem dL_law_1937 : decode cL_law 1937 = .ok (.aload_n 0, 1) := by decide +kernel
theorem dL_law_1938 : decode cL_law 1938 = .ok (.iload 5, 2) := by decide +kernel
theorem dL_law_1940 : decode cL_law 1940 = .ok (.iconst 1, 1) := by decide +kernel
theorem dL_law_1941 : decode cL_law 1941 = .ok (.iadd, 1) := by decide +kernel
theorem dL_law_1942 : decode cL_law 1942 = .ok (.iaload, 1) := by decide +kernel
theorem dL_law_1943 : decode cL_law 1943 = .ok (.aload_n 3, 1) := by decide +kernel
theorem dL_law_1944 : decode cL_law 1944 = .ok (.invokestatic 267, 3) := by decide +kernel
theorem dL_law_1947 : decode cL_law 1947 = .ok (.istore 6, 2) := by decide +kernel
theorem dL_law_1949 : decode cL_law 1949 = .ok (.aload_n 2, 1) := by decide +kernel
theorem dL_law_1950 : decode cL_law 1950 = .ok (.aload_n 0, 1) := by decide +kernel
theorem dL_law_1951 : decode cL_law 1951 = .ok (.iload 5, 2) := by decide +kernel
theorem dL_law_1953 : decode cL_law 1953 = .ok (.iconst 1, 1) := by decide +kernel
theorem dL_law_1954 : decode cL_law 1954 = .ok (.iadd, 1) := by decide +kernel
theorem dL_law_1955 : decode cL_law 1955 = .ok (.iaload, 1) := by decide +kernel
theorem dL_law_1956 : decode cL_law 1956 = .ok (.invokevirtual 269, 3) := by decide +kernel
theorem dL_law_1959 : decode cL_law 1959 = .ok (.istore 7, 2) := by decide +kernel
theorem dL_law_1961 : decode cL_law 1961 = .ok (.aload_n 2, 1) := by decide +kernel
theorem dL_law_1962 : decode cL_law 1962 = .ok (.invokevirtual 183, 3) := by decide +kernel
theorem dL_law_1965 : decode cL_law 1965 = .ok (.iload 6, 2) := by decide +kernel
theorem dL_law_1967 : decode cL_law 1967 = .ok (.if_icmp .eq 5, 3) := by decide +kernel
theorem dL_law_1972 : decode cL_law 1972 = .ok (.iload 6, 2) := by decide +kernel
theorem dL_law_1974 : decode cL_law 1974 = .ok (.ifCond .ne 15, 3) := by decide +kernel
theorem dL_law_1989 : decode cL_law 1989 = .ok (.goto 1440, 3) := by decide +kernel
theorem dL_law_1992 : decode cL_law 1992 = .ok (.aload_n 1, 1) := by decide +kernel
theorem dL_law_1993 : decode cL_law 1993 = .ok (.aload_n 0, 1) := by decide +kernel
theorem dL_law_1994 : decode cL_law 1994 = .ok (.iload 5, 2) := by decide +kernel
theorem dL_law_1996 : decode cL_law 1996 = .ok (.iconst 1, 1) := by decide +kernel
theorem dL_law_1997 : decode cL_law 1997 = .ok (.iadd, 1) := by decide +kernel
theorem dL_law_1998 : decode cL_law 1998 = .ok (.iaload, 1) := by decide +kernel
theorem dL_law_1999 : decode cL_law 1999 = .ok (.aload_n 3, 1) := by decide +kernel
theorem dL_law_2000 : decode cL_law 2000 = .ok (.invokestatic 270, 3) := by decide +kernel
theorem dL_law_2003 : decode cL_law 2003 = .ok (.istore 6, 2) := by decide +kernel
theorem dL_law_2005 : decode cL_law 2005 = .ok (.aload_n 2, 1) := by decide +kernel
theorem dL_law_2006 : decode cL_law 2006 = .ok (.aload_n 0, 1) := by decide +kernel
theorem dL_law_2007 : decode cL_law 2007 = .ok (.iload 5, 2) := by decide +kernel
theorem dL_law_2009 : decode cL_law 2009 = .ok (.iconst 1, 1) := by decide +kernel
theorem dL_law_2010 : decode cL_law 2010 = .ok (.iadd, 1) := by decide +kernel
theorem dL_law_2011 : decode cL_law 2011 = .ok (.iaload, 1) := by decide +kernel
theorem dL_law_2012 : decode cL_law 2012 = .ok (.invokevirtual 272, 3) := by decide +kernel
theorem dL_law_2015 : decode cL_law 2015 = .ok (.istore 7, 2) := by decide +kernel
theorem dL_law_2017 : decode cL_law 2017 = .ok (.aload_n 2, 1) := by decide +kernel
theorem dL_law_2018 : decode cL_law 2018 = .ok (.invokevirtual 183, 3) := by decide +kernel
theorem dL_law_2021 : decode cL_law 2021 = .ok (.iload 6, 2) := by decide +kernel
theorem dL_law_2023 : decode cL_law 2023 = .ok (.if_icmp .eq 5, 3) := by decide +kernel
theorem dL_law_2028 : decode cL_law 2028 = .ok (.iload 6, 2) := by decide +kernel
theorem dL_law_2030 : decode cL_law 2030 = .ok (.ifCond .ne 15, 3) := by decide +kernel
theorem dL_law_2045 : decode cL_law 2045 = .ok (.goto 1384, 3) := by decide +kernel
theorem dL_law_2048 : decode cL_law 2048 = .ok (.aload_n 1, 1) := by decide +kernel
theorem dL_law_2049 : decode cL_law 2049 = .ok (.aload_n 0, 1) := by decide +kernel
theorem dL_law_2050 : decode cL_law 2050 = .ok (.iload 5, 2) := by decide +kernel
theorem dL_law_2052 : decode cL_law 2052 = .ok (.iconst 1, 1) := by decide +kernel
theorem dL_law_2053 : decode cL_law 2053 = .ok (.iadd, 1) := by decide +kernel
theorem dL_law_2054 : decode cL_law 2054 = .ok (.iaload, 1) := by decide +kernel
theorem dL_law_2055 : decode cL_law 2055 = .ok (.aload_n 3, 1) := by decide +kernel
theorem dL_law_2056 : decode cL_law 2056 = .ok (.invokestatic 273, 3) := by decide +kernel
theorem dL_law_2059 : decode cL_law 2059 = .ok (.istore 6, 2) := by decide +kernel
theorem dL_law_2061 : decode cL_law 2061 = .ok (.aload_n 2, 1) := by decide +kernel
theorem dL_law_2062 : decode cL_law 2062 = .ok (.aload_n 0, 1) := by decide +kernel
theorem dL_law_2063 : decode cL_law 2063 = .ok (.iload 5, 2) := by decide +kernel
theorem dL_law_2065 : decode cL_law 2065 = .ok (.iconst 1, 1) := by decide +kernel
theorem dL_law_2066 : decode cL_law 2066 = .ok (.iadd, 1) := by decide +kernel
theorem dL_law_2067 : decode cL_law 2067 = .ok (.iaload, 1) := by decide +kernel
theorem dL_law_2068 : decode cL_law 2068 = .ok (.invokevirtual 275, 3) := by decide +kernel
theorem dL_law_2071 : decode cL_law 2071 = .ok (.istore 7, 2) := by decide +kernel
theorem dL_law_2073 : decode cL_law 2073 = .ok (.aload_n 2, 1) := by decide +kernel
theorem dL_law_2074 : decode cL_law 2074 = .ok (.invokevirtual 183, 3) := by decide +kernel
theorem dL_law_2077 : decode cL_law 2077 = .ok (.iload 6, 2) := by decide +kernel
theorem dL_law_2079 : decode cL_law 2079 = .ok (.if_icmp .eq 5, 3) := by decide +kernel
theorem dL_law_2084 : decode cL_law 2084 = .ok (.iload 6, 2) := by decide +kernel
theorem dL_law_2086 : decode cL_law 2086 = .ok (.ifCond .ne 15, 3) := by decide +kernel
theorem dL_law_2101 : decode cL_law 2101 = .ok (.goto 1328, 3) := by decide +kernel
theorem dL_law_2104 : decode cL_law 2104 = .ok (.aload_n 1, 1) := by decide +kernel
theorem dL_law_2105 : decode cL_law 2105 = .ok (.aload_n 0, 1) := by decide +kernel
theorem dL_law_2106 : decode cL_law 2106 = .ok (.iload 5, 2) := by decide +kernel
theorem dL_law_2108 : decode cL_law 2108 = .ok (.iconst 1, 1) := by decide +kernel
theorem dL_law_2109 : decode cL_law 2109 = .ok (.iadd, 1) := by decide +kernel
theorem dL_law_2110 : decode cL_law 2110 = .ok (.iaload, 1) := by decide +kernel
theorem dL_law_2111 : decode cL_law 2111 = .ok (.aload_n 3, 1) := by decide +kernel
theorem dL_law_2112 : decode cL_law 2112 = .ok (.invokestatic 276, 3) := by decide +kernel
theorem dL_law_2115 : decode cL_law 2115 = .ok (.istore 6, 2) := by decide +kernel
theorem dL_law_2117 : decode cL_law 2117 = .ok (.aload_n 2, 1) := by decide +kernel
theorem dL_law_2118 : decode cL_law 2118 = .ok (.aload_n 0, 1) := by decide +kernel
theorem dL_law_2119 : decode cL_law 2119 = .ok (.iload 5, 2) := by decide +kernel
theorem dL_law_2121 : decode cL_law 2121 = .ok (.iconst 1, 1) := by decide +kernel
theorem dL_law_2122 : decode cL_law 2122 = .ok (.iadd, 1) := by decide +kernel
theorem dL_law_2123 : decode cL_law 2123 = .ok (.iaload, 1) := by decide +kernel
theorem dL_law_2124 : decode cL_law 2124 = .ok (.invokevirtual 278, 3) := by decide +kernel
theorem dL_law_2127 : decode cL_law 2127 = .ok (.istore 7, 2) := by decide +kernel
theorem dL_law_2129 : decode cL_law 2129 = .ok (.aload_n 2, 1) := by decide +kernel
theorem dL_law_2130 : decode cL_law 2130 = .ok (.invokevirtual 183, 3) := by decide +kernel
theorem dL_law_2133 : decode cL_law 2133 = .ok (.iload 6, 2) := by decide +kernel
theorem dL_law_2135 : decode cL_law 2135 = .ok (.if_icmp .eq 5, 3) := by decide +kernel
theorem dL_law_2140 : decode cL_law 2140 = .ok (.iload 6, 2) := by decide +kernel
theorem dL_law_2142 : decode cL_law 2142 = .ok (.ifCond .ne 15, 3) := by decide +kernel
theorem dL_law_2157 : decode cL_law 2157 = .ok (.goto 1272, 3) := by decide +kernel
theorem dL_law_2160 : decode cL_law 2160 = .ok (.aload_n 1, 1) := by decide +kernel
theorem dL_law_2161 : decode cL_law 2161 = .ok (.aload_n 0, 1) := by decide +kernel
theorem dL_law_2162 : decode cL_law 2162 = .ok (.iload 5, 2) := by decide +kernel
theorem dL_law_2164 : decode cL_law 2164 = .ok (.iconst 1, 1) := by decide +kernel
theorem dL_law_2165 : decode cL_law 2165 = .ok (.iadd, 1) := by decide +kernel
theorem dL_law_2166 : decode cL_law 2166 = .ok (.iaload, 1) := by decide +kernel
theorem dL_law_2167 : decode cL_law 2167 = .ok (.aload_n 0, 1) := by decide +kernel
theorem dL_law_2168 : decode cL_law 2168 = .ok (.iload 5, 2) := by decide +kernel
theorem dL_law_2170 : decode cL_law 2170 = .ok (.iconst 2, 1) := by decide +kernel
theorem dL_law_2171 : decode cL_law 2171 = .ok (.iadd, 1) := by decide +kernel
theorem dL_law_2172 : decode cL_law 2172 = .ok (.iaload, 1) := by decide +kernel
theorem dL_law_2173 : decode cL_law 2173 = .ok (.aload_n 3, 1) := by decide +kernel
theorem dL_law_2174 : decode cL_law 2174 = .ok (.invokestatic 279, 3) := by decide +kernel
theorem dL_law_2177 : decode cL_law 2177 = .ok (.istore 6, 2) := by decide +kernel
theorem dL_law_2179 : decode cL_law 2179 = .ok (.aload_n 2, 1) := by decide +kernel
theorem dL_law_2180 : decode cL_law 2180 = .ok (.aload_n 0, 1) := by decide +kernel
theorem dL_law_2181 : decode cL_law 2181 = .ok (.iload 5, 2) := by decide +kernel
theorem dL_law_2183 : decode cL_law 2183 = .ok (.iconst 1, 1) := by decide +kernel
theorem dL_law_2184 : decode cL_law 2184 = .ok (.iadd, 1) := by decide +kernel
theorem dL_law_2185 : decode cL_law 2185 = .ok (.iaload, 1) := by decide +kernel
theorem dL_law_2186 : decode cL_law 2186 = .ok (.aload_n 0, 1) := by decide +kernel
theorem dL_law_2187 : decode cL_law 2187 = .ok (.iload 5, 2) := by decide +kernel
theorem dL_law_2189 : decode cL_law 2189 = .ok (.iconst 2, 1) := by decide +kernel
theorem dL_law_2190 : decode cL_law 2190 = .ok (.iadd, 1) := by decide +kernel
theorem dL_law_2191 : decode cL_law 2191 = .ok (.iaload, 1) := by decide +kernel
theorem dL_law_2192 : decode cL_law 2192 = .ok (.invokevirtual 281, 3) := by decide +kernel
theorem dL_law_2195 : decode cL_law 2195 = .ok (.istore 7, 2) := by decide +kernel
theorem dL_law_2197 : decode cL_law 2197 = .ok (.aload_n 2, 1) := by decide +kernel
theorem dL_law_2198 : decode cL_law 2198 = .ok (.invokevirtual 183, 3) := by decide +kernel
theorem dL_law_2201 : decode cL_law 2201 = .ok (.iload 6, 2) := by decide +kernel
theorem dL_law_2203 : decode cL_law 2203 = .ok (.if_icmp .eq 5, 3) := by decide +kernel
theorem dL_law_2208 : decode cL_law 2208 = .ok (.iload 6, 2) := by decide +kernel
theorem dL_law_2210 : decode cL_law 2210 = .ok (.ifCond .ne 15, 3) := by decide +kernel
theorem dL_law_2225 : decode cL_law 2225 = .ok (.goto 1204, 3) := by decide +kernel
theorem dL_law_2228 : decode cL_law 2228 = .ok (.aload_n 1, 1) := by decide +kernel
theorem dL_law_2229 : decode cL_law 2229 = .ok (.aload_n 0, 1) := by decide +kernel
theorem dL_law_2230 : decode cL_law 2230 = .ok (.iload 5, 2) := by decide +kernel
theorem dL_law_2232 : decode cL_law 2232 = .ok (.iconst 1, 1) := by decide +kernel
theorem dL_law_2233 : decode cL_law 2233 = .ok (.iadd, 1) := by decide +kernel
theorem dL_law_2234 : decode cL_law 2234 = .ok (.iaload, 1) := by decide +kernel
theorem dL_law_2235 : decode cL_law 2235 = .ok (.aload_n 3, 1) := by decide +kernel
theorem dL_law_2236 : decode cL_law 2236 = .ok (.invokestatic 282, 3) := by decide +kernel
theorem dL_law_2239 : decode cL_law 2239 = .ok (.istore 6, 2) := by decide +kernel
theorem dL_law_2241 : decode cL_law 2241 = .ok (.aload_n 2, 1) := by decide +kernel
theorem dL_law_2242 : decode cL_law 2242 = .ok (.aload_n 0, 1) := by decide +kernel
theorem dL_law_2243 : decode cL_law 2243 = .ok (.iload 5, 2) := by decide +kernel
theorem dL_law_2245 : decode cL_law 2245 = .ok (.iconst 1, 1) := by decide +kernel
theorem dL_law_2246 : decode cL_law 2246 = .ok (.iadd, 1) := by decide +kernel
theorem dL_law_2247 : decode cL_law 2247 = .ok (.iaload, 1) := by decide +kernel
theorem dL_law_2248 : decode cL_law 2248 = .ok (.invokevirtual 284, 3) := by decide +kernel
theorem dL_law_2251 : decode cL_law 2251 = .ok (.istore 7, 2) := by decide +kernel
theorem dL_law_2253 : decode cL_law 2253 = .ok (.aload_n 2, 1) := by decide +kernel
theorem dL_law_2254 : decode cL_law 2254 = .ok (.invokevirtual 183, 3) := by decide +kernel
theorem dL_law_2257 : decode cL_law 2257 = .ok (.iload 6, 2) := by decide +kernel
theorem dL_law_2259 : decode cL_law 2259 = .ok (.if_icmp .eq 5, 3) := by decide +kernel
theorem dL_law_2264 : decode cL_law 2264 = .ok (.iload 6, 2) := by decide +kernel
theorem dL_law_2266 : decode cL_law 2266 = .ok (.ifCond .ne 15, 3) := by decide +kernel
theorem dL_law_2281 : decode cL_law 2281 = .ok (.goto 1148, 3) := by decide +kernel
theorem dL_law_2284 : decode cL_law 2284 = .ok (.aload_n 1, 1) := by decide +kernel
theorem dL_law_2285 : decode cL_law 2285 = .ok (.aload_n 0, 1) := by decide +kernel
theorem dL_law_2286 : decode cL_law 2286 = .ok (.iload 5, 2) := by decide +kernel
theorem dL_law_2288 : decode cL_law 2288 = .ok (.iconst 1, 1) := by decide +kernel
theorem dL_law_2289 : decode cL_law 2289 = .ok (.iadd, 1) := by decide +kernel
theorem dL_law_2290 : decode cL_law 2290 = .ok (.iaload, 1) := by decide +kernel
theorem dL_law_2291 : decode cL_law 2291 = .ok (.aload_n 0, 1) := by decide +kernel
theorem dL_law_2292 : decode cL_law 2292 = .ok (.iload 5, 2) := by decide +kernel
theorem dL_law_2294 : decode cL_law 2294 = .ok (.iconst 2, 1) := by decide +kernel
theorem dL_law_2295 : decode cL_law 2295 = .ok (.iadd, 1) := by decide +kernel
theorem dL_law_2296 : decode cL_law 2296 = .ok (.iaload, 1) := by decide +kernel
theorem dL_law_2297 : decode cL_law 2297 = .ok (.aload_n 3, 1) := by decide +kernel
theorem dL_law_2298 : decode cL_law 2298 = .ok (.invokestatic 285, 3) := by decide +kernel
theorem dL_law_2301 : decode cL_law 2301 = .ok (.istore 6, 2) := by decide +kernel
theorem dL_law_2303 : decode cL_law 2303 = .ok (.aload_n 2, 1) := by decide +kernel
theorem dL_law_2304 : decode cL_law 2304 = .ok (.aload_n 0, 1) := by decide +kernel
theorem dL_law_2305 : decode cL_law 2305 = .ok (.iload 5, 2) := by decide +kernel
theorem dL_law_2307 : decode cL_law 2307 = .ok (.iconst 1, 1) := by decide +kernel
theorem dL_law_2308 : decode cL_law 2308 = .ok (.iadd, 1) := by decide +kernel
theorem dL_law_2309 : decode cL_law 2309 = .ok (.iaload, 1) := by decide +kernel
theorem dL_law_2310 : decode cL_law 2310 = .ok (.aload_n 0, 1) := by decide +kernel
theorem dL_law_2311 : decode cL_law 2311 = .ok (.iload 5, 2) := by decide +kernel
theorem dL_law_2313 : decode cL_law 2313 = .ok (.iconst 2, 1) := by decide +kernel
theorem dL_law_2314 : decode cL_law 2314 = .ok (.iadd, 1) := by decide +kernel
theorem dL_law_2315 : decode cL_law 2315 = .ok (.iaload, 1) := by decide +kernel
theorem dL_law_2316 : decode cL_law 2316 = .ok (.invokevirtual 287, 3) := by decide +kernel
theorem dL_law_2319 : decode cL_law 2319 = .ok (.istore 7, 2) := by decide +kernel
theorem dL_law_2321 : decode cL_law 2321 = .ok (.aload_n 2, 1) := by decide +kernel
theorem dL_law_2322 : decode cL_law 2322 = .ok (.invokevirtual 183, 3) := by decide +kernel
theorem dL_law_2325 : decode cL_law 2325 = .ok (.iload 6, 2) := by decide +kernel
theorem dL_law_2327 : decode cL_law 2327 = .ok (.if_icmp .eq 5, 3) := by decide +kernel
theorem dL_law_2332 : decode cL_law 2332 = .ok (.iload 6, 2) := by decide +kernel
theorem dL_law_2334 : decode cL_law 2334 = .ok (.ifCond .ne 15, 3) := by decide +kernel
theorem dL_law_2349 : decode cL_law 2349 = .ok (.goto 1080, 3) := by decide +kernel
theorem dL_law_2352 : decode cL_law 2352 = .ok (.aload_n 1, 1) := by decide +kernel
theorem dL_law_2353 : decode cL_law 2353 = .ok (.aload_n 0, 1) := by decide +kernel
theorem dL_law_2354 : decode cL_law 2354 = .ok (.iload 5, 2) := by decide +kernel
theorem dL_law_2356 : decode cL_law 2356 = .ok (.iconst 1, 1) := by decide +kernel
theorem dL_law_2357 : decode cL_law 2357 = .ok (.iadd, 1) := by decide +kernel
theorem dL_law_2358 : decode cL_law 2358 = .ok (.iaload, 1) := by decide +kernel
theorem dL_law_2359 : decode cL_law 2359 = .ok (.aload_n 0, 1) := by decide +kernel
theorem dL_law_2360 : decode cL_law 2360 = .ok (.iload 5, 2) := by decide +kernel
theorem dL_law_2362 : decode cL_law 2362 = .ok (.iconst 2, 1) := by decide +kernel
theorem dL_law_2363 : decode cL_law 2363 = .ok (.iadd, 1) := by decide +kernel
theorem dL_law_2364 : decode cL_law 2364 = .ok (.iaload, 1) := by decide +kernel
theorem dL_law_2365 : decode cL_law 2365 = .ok (.aload_n 3, 1) := by decide +kernel
theorem dL_law_2366 : decode cL_law 2366 = .ok (.invokestatic 288, 3) := by decide +kernel
theorem dL_law_2369 : decode cL_law 2369 = .ok (.istore 6, 2) := by decide +kernel
theorem dL_law_2371 : decode cL_law 2371 = .ok (.aload_n 2, 1) := by decide +kernel
theorem dL_law_2372 : decode cL_law 2372 = .ok (.aload_n 0, 1) := by decide +kernel
theorem dL_law_2373 : decode cL_law 2373 = .ok (.iload 5, 2) := by decide +kernel
theorem dL_law_2375 : decode cL_law 2375 = .ok (.iconst 1, 1) := by decide +kernel
theorem dL_law_2376 : decode cL_law 2376 = .ok (.iadd, 1) := by decide +kernel
theorem dL_law_2377 : decode cL_law 2377 = .ok (.iaload, 1) := by decide +kernel
theorem dL_law_2378 : decode cL_law 2378 = .ok (.aload_n 0, 1) := by decide +kernel
theorem dL_law_2379 : decode cL_law 2379 = .ok (.iload 5, 2) := by decide +kernel
theorem dL_law_2381 : decode cL_law 2381 = .ok (.iconst 2, 1) := by decide +kernel
theorem dL_law_2382 : decode cL_law 2382 = .ok (.iadd, 1) := by decide +kernel
theorem dL_law_2383 : decode cL_law 2383 = .ok (.iaload, 1) := by decide +kernel
theorem dL_law_2384 : decode cL_law 2384 = .ok (.invokevirtual 290, 3) := by decide +kernel
theorem dL_law_2387 : decode cL_law 2387 = .ok (.istore 7, 2) := by decide +kernel
theorem dL_law_2389 : decode cL_law 2389 = .ok (.aload_n 2, 1) := by decide +kernel
theorem dL_law_2390 : decode cL_law 2390 = .ok (.invokevirtual 183, 3) := by decide +kernel
theorem dL_law_2393 : decode cL_law 2393 = .ok (.iload 6, 2) := by decide +kernel
theorem dL_law_2395 : decode cL_law 2395 = .ok (.if_icmp .eq 5, 3) := by decide +kernel
theorem dL_law_2400 : decode cL_law 2400 = .ok (.iload 6, 2) := by decide +kernel
theorem dL_law_2402 : decode cL_law 2402 = .ok (.ifCond .ne 15, 3) := by decide +kernel
theorem dL_law_2417 : decode cL_law 2417 = .ok (.goto 1012, 3) := by decide +kernel
theorem dL_law_2420 : decode cL_law 2420 = .ok (.aload_n 1, 1) := by decide +kernel
theorem dL_law_2421 : decode cL_law 2421 = .ok (.aload_n 0, 1) := by decide +kernel
theorem dL_law_2422 : decode cL_law 2422 = .ok (.iload 5, 2) := by decide +kernel
theorem dL_law_2424 : decode cL_law 2424 = .ok (.iconst 1, 1) := by decide +kernel
theorem dL_law_2425 : decode cL_law 2425 = .ok (.iadd, 1) := by decide +kernel
theorem dL_law_2426 : decode cL_law 2426 = .ok (.iaload, 1) := by decide +kernel
theorem dL_law_2427 : decode cL_law 2427 = .ok (.aload_n 0, 1) := by decide +kernel
theorem dL_law_2428 : decode cL_law 2428 = .ok (.iload 5, 2) := by decide +kernel
theorem dL_law_2430 : decode cL_law 2430 = .ok (.iconst 2, 1) := by decide +kernel
theorem dL_law_2431 : decode cL_law 2431 = .ok (.iadd, 1) := by decide +kernel
theorem dL_law_2432 : decode cL_law 2432 = .ok (.iaload, 1) := by decide +kernel
theorem dL_law_2433 : decode cL_law 2433 = .ok (.aload_n 3, 1) := by decide +kernel
theorem dL_law_2434 : decode cL_law 2434 = .ok (.invokestatic 291, 3) := by decide +kernel
theorem dL_law_2437 : decode cL_law 2437 = .ok (.istore 6, 2) := by decide +kernel
theorem dL_law_2439 : decode cL_law 2439 = .ok (.aload_n 2, 1) := by decide +kernel
theorem dL_law_2440 : decode cL_law 2440 = .ok (.aload_n 0, 1) := by decide +kernel
theorem dL_law_2441 : decode cL_law 2441 = .ok (.iload 5, 2) := by decide +kernel
theorem dL_law_2443 : decode cL_law 2443 = .ok (.iconst 1, 1) := by decide +kernel
theorem dL_law_2444 : decode cL_law 2444 = .ok (.iadd, 1) := by decide +kernel
theorem dL_law_2445 : decode cL_law 2445 = .ok (.iaload, 1) := by decide +kernel
theorem dL_law_2446 : decode cL_law 2446 = .ok (.aload_n 0, 1) := by decide +kernel
theorem dL_law_2447 : decode cL_law 2447 = .ok (.iload 5, 2) := by decide +kernel
theorem dL_law_2449 : decode cL_law 2449 = .ok (.iconst 2, 1) := by decide +kernel
theorem dL_law_2450 : decode cL_law 2450 = .ok (.iadd, 1) := by decide +kernel
theorem dL_law_2451 : decode cL_law 2451 = .ok (.iaload, 1) := by decide +kernel
theorem dL_law_2452 : decode cL_law 2452 = .ok (.invokevirtual 293, 3) := by decide +kernel
theorem dL_law_2455 : decode cL_law 2455 = .ok (.istore 7, 2) := by decide +kernel
theorem dL_law_2457 : decode cL_law 2457 = .ok (.aload_n 2, 1) := by decide +kernel
theorem dL_law_2458 : decode cL_law 2458 = .ok (.invokevirtual 183, 3) := by decide +kernel
theorem dL_law_2461 : decode cL_law 2461 = .ok (.iload 6, 2) := by decide +kernel
theorem dL_law_2463 : decode cL_law 2463 = .ok (.if_icmp .eq 5, 3) := by decide +kernel
theorem dL_law_2468 : decode cL_law 2468 = .ok (.iload 6, 2) := by decide +kernel
theorem dL_law_2470 : decode cL_law 2470 = .ok (.ifCond .ne 15, 3) := by decide +kernel
theorem dL_law_2485 : decode cL_law 2485 = .ok (.goto 944, 3) := by decide +kernel
theorem dL_law_2488 : decode cL_law 2488 = .ok (.aload_n 1, 1) := by decide +kernel
theorem dL_law_2489 : decode cL_law 2489 = .ok (.aload_n 0, 1) := by decide +kernel
theorem dL_law_2490 : decode cL_law 2490 = .ok (.iload 5, 2) := by decide +kernel
theorem dL_law_2492 : decode cL_law 2492 = .ok (.iconst 1, 1) := by decide +kernel
theorem dL_law_2493 : decode cL_law 2493 = .ok (.iadd, 1) := by decide +kernel
theorem dL_law_2494 : decode cL_law 2494 = .ok (.iaload, 1) := by decide +kernel
theorem dL_law_2495 : decode cL_law 2495 = .ok (.aload_n 0, 1) := by decide +kernel
theorem dL_law_2496 : decode cL_law 2496 = .ok (.iload 5, 2) := by decide +kernel
theorem dL_law_2498 : decode cL_law 2498 = .ok (.iconst 2, 1) := by decide +kernel
theorem dL_law_2499 : decode cL_law 2499 = .ok (.iadd, 1) := by decide +kernel
theorem dL_law_2500 : decode cL_law 2500 = .ok (.iaload, 1) := by decide +kernel
theorem dL_law_2501 : decode cL_law 2501 = .ok (.aload_n 3, 1) := by decide +kernel
theorem dL_law_2502 : decode cL_law 2502 = .ok (.invokestatic 294, 3) := by decide +kernel
theorem dL_law_2505 : decode cL_law 2505 = .ok (.istore 6, 2) := by decide +kernel
theorem dL_law_2507 : decode cL_law 2507 = .ok (.aload_n 2, 1) := by decide +kernel
theorem dL_law_2508 : decode cL_law 2508 = .ok (.aload_n 0, 1) := by decide +kernel
theorem dL_law_2509 : decode cL_law 2509 = .ok (.iload 5, 2) := by decide +kernel
theorem dL_law_2511 : decode cL_law 2511 = .ok (.iconst 1, 1) := by decide +kernel
theorem dL_law_2512 : decode cL_law 2512 = .ok (.iadd, 1) := by decide +kernel
theorem dL_law_2513 : decode cL_law 2513 = .ok (.iaload, 1) := by decide +kernel
theorem dL_law_2514 : decode cL_law 2514 = .ok (.aload_n 0, 1) := by decide +kernel
theorem dL_law_2515 : decode cL_law 2515 = .ok (.iload 5, 2) := by decide +kernel
theorem dL_law_2517 : decode cL_law 2517 = .ok (.iconst 2, 1) := by decide +kernel
theorem dL_law_2518 : decode cL_law 2518 = .ok (.iadd, 1) := by decide +kernel
theorem dL_law_2519 : decode cL_law 2519 = .ok (.iaload, 1) := by decide +kernel
theorem dL_law_2520 : decode cL_law 2520 = .ok (.invokevirtual 296, 3) := by decide +kernel
theorem dL_law_2523 : decode cL_law 2523 = .ok (.istore 7, 2) := by decide +kernel
theorem dL_law_2525 : decode cL_law 2525 = .ok (.aload_n 2, 1) := by decide +kernel
theorem dL_law_2526 : decode cL_law 2526 = .ok (.invokevirtual 183, 3) := by decide +kernel
theorem dL_law_2529 : decode cL_law 2529 = .ok (.iload 6, 2) := by decide +kernel
theorem dL_law_2531 : decode cL_law 2531 = .ok (.if_icmp .eq 5, 3) := by decide +kernel
theorem dL_law_2536 : decode cL_law 2536 = .ok (.iload 6, 2) := by decide +kernel
theorem dL_law_2538 : decode cL_law 2538 = .ok (.ifCond .ne 15, 3) := by decide +kernel
theorem dL_law_2553 : decode cL_law 2553 = .ok (.goto 876, 3) := by decide +kernel
theorem dL_law_2556 : decode cL_law 2556 = .ok (.aload_n 1, 1) := by decide +kernel
theorem dL_law_2557 : decode cL_law 2557 = .ok (.aload_n 0, 1) := by decide +kernel
theorem dL_law_2558 : decode cL_law 2558 = .ok (.iload 5, 2) := by decide +kernel
theorem dL_law_2560 : decode cL_law 2560 = .ok (.iconst 1, 1) := by decide +kernel
theorem dL_law_2561 : decode cL_law 2561 = .ok (.iadd, 1) := by decide +kernel
theorem dL_law_2562 : decode cL_law 2562 = .ok (.iaload, 1) := by decide +kernel
theorem dL_law_2563 : decode cL_law 2563 = .ok (.aload_n 0, 1) := by decide +kernel
theorem dL_law_2564 : decode cL_law 2564 = .ok (.iload 5, 2) := by decide +kernel
theorem dL_law_2566 : decode cL_law 2566 = .ok (.iconst 2, 1) := by decide +kernel
theorem dL_law_2567 : decode cL_law 2567 = .ok (.iadd, 1) := by decide +kernel
theorem dL_law_2568 : decode cL_law 2568 = .ok (.iaload, 1) := by decide +kernel
theorem dL_law_2569 : decode cL_law 2569 = .ok (.aload_n 3, 1) := by decide +kernel
theorem dL_law_2570 : decode cL_law 2570 = .ok (.invokestatic 297, 3) := by decide +kernel
theorem dL_law_2573 : decode cL_law 2573 = .ok (.istore 6, 2) := by decide +kernel
theorem dL_law_2575 : decode cL_law 2575 = .ok (.aload_n 2, 1) := by decide +kernel
theorem dL_law_2576 : decode cL_law 2576 = .ok (.aload_n 0, 1) := by decide +kernel
theorem dL_law_2577 : decode cL_law 2577 = .ok (.iload 5, 2) := by decide +kernel
theorem dL_law_2579 : decode cL_law 2579 = .ok (.iconst 1, 1) := by decide +kernel
theorem dL_law_2580 : decode cL_law 2580 = .ok (.iadd, 1) := by decide +kernel
theorem dL_law_2581 : decode cL_law 2581 = .ok (.iaload, 1) := by decide +kernel
theorem dL_law_2582 : decode cL_law 2582 = .ok (.aload_n 0, 1) := by decide +kernel
theorem dL_law_2583 : decode cL_law 2583 = .ok (.iload 5, 2) := by decide +kernel
theorem dL_law_2585 : decode cL_law 2585 = .ok (.iconst 2, 1) := by decide +kernel
theorem dL_law_2586 : decode cL_law 2586 = .ok (.iadd, 1) := by decide +kernel
theorem dL_law_2587 : decode cL_law 2587 = .ok (.iaload, 1) := by decide +kernel
theorem dL_law_2588 : decode cL_law 2588 = .ok (.invokevirtual 299, 3) := by decide +kernel
theorem dL_law_2591 : decode cL_law 2591 = .ok (.istore 7, 2) := by decide +kernel
theorem dL_law_2593 : decode cL_law 2593 = .ok (.aload_n 2, 1) := by decide +kernel
theorem dL_law_2594 : decode cL_law 2594 = .ok (.invokevirtual 183, 3) := by decide +kernel
theorem dL_law_2597 : decode cL_law 2597 = .ok (.iload 6, 2) := by decide +kernel
theorem dL_law_2599 : decode cL_law 2599 = .ok (.if_icmp .eq 5, 3) := by decide +kernel
theorem dL_law_2604 : decode cL_law 2604 = .ok (.iload 6, 2) := by decide +kernel
theorem dL_law_2606 : decode cL_law 2606 = .ok (.ifCond .ne 15, 3) := by decide +kernel
theorem dL_law_2621 : decode cL_law 2621 = .ok (.goto 808, 3) := by decide +kernel
theorem dL_law_2624 : decode cL_law 2624 = .ok (.aload_n 1, 1) := by decide +kernel
theorem dL_law_2625 : decode cL_law 2625 = .ok (.aload_n 0, 1) := by decide +kernel
theorem dL_law_2626 : decode cL_law 2626 = .ok (.iload 5, 2) := by decide +kernel
theorem dL_law_2628 : decode cL_law 2628 = .ok (.iconst 1, 1) := by decide +kernel
theorem dL_law_2629 : decode cL_law 2629 = .ok (.iadd, 1) := by decide +kernel
theorem dL_law_2630 : decode cL_law 2630 = .ok (.iaload, 1) := by decide +kernel
theorem dL_law_2631 : decode cL_law 2631 = .ok (.aload_n 0, 1) := by decide +kernel
theorem dL_law_2632 : decode cL_law 2632 = .ok (.iload 5, 2) := by decide +kernel
theorem dL_law_2634 : decode cL_law 2634 = .ok (.iconst 2, 1) := by decide +kernel
theorem dL_law_2635 : decode cL_law 2635 = .ok (.iadd, 1) := by decide +kernel
theorem dL_law_2636 : decode cL_law 2636 = .ok (.iaload, 1) := by decide +kernel
theorem dL_law_2637 : decode cL_law 2637 = .ok (.aload_n 0, 1) := by decide +kernel
theorem dL_law_2638 : decode cL_law 2638 = .ok (.iload 5, 2) := by decide +kernel
theorem dL_law_2640 : decode cL_law 2640 = .ok (.iconst 3, 1) := by decide +kernel
theorem dL_law_2641 : decode cL_law 2641 = .ok (.iadd, 1) := by decide +kernel
theorem dL_law_2642 : decode cL_law 2642 = .ok (.iaload, 1) := by decide +kernel
theorem dL_law_2643 : decode cL_law 2643 = .ok (.aload_n 3, 1) := by decide +kernel
theorem dL_law_2644 : decode cL_law 2644 = .ok (.invokestatic 300, 3) := by decide +kernel
theorem dL_law_2647 : decode cL_law 2647 = .ok (.istore 6, 2) := by decide +kernel
theorem dL_law_2649 : decode cL_law 2649 = .ok (.aload_n 2, 1) := by decide +kernel
theorem dL_law_2650 : decode cL_law 2650 = .ok (.aload_n 0, 1) := by decide +kernel
theorem dL_law_2651 : decode cL_law 2651 = .ok (.iload 5, 2) := by decide +kernel
theorem dL_law_2653 : decode cL_law 2653 = .ok (.iconst 1, 1) := by decide +kernel
theorem dL_law_2654 : decode cL_law 2654 = .ok (.iadd, 1) := by decide +kernel
theorem dL_law_2655 : decode cL_law 2655 = .ok (.iaload, 1) := by decide +kernel
theorem dL_law_2656 : decode cL_law 2656 = .ok (.aload_n 0, 1) := by decide +kernel
theorem dL_law_2657 : decode cL_law 2657 = .ok (.iload 5, 2) := by decide +kernel
theorem dL_law_2659 : decode cL_law 2659 = .ok (.iconst 2, 1) := by decide +kernel
theorem dL_law_2660 : decode cL_law 2660 = .ok (.iadd, 1) := by decide +kernel
theorem dL_law_2661 : decode cL_law 2661 = .ok (.iaload, 1) := by decide +kernel
theorem dL_law_2662 : decode cL_law 2662 = .ok (.aload_n 0, 1) := by decide +kernel
theorem dL_law_2663 : decode cL_law 2663 = .ok (.iload 5, 2) := by decide +kernel
theorem dL_law_2665 : decode cL_law 2665 = .ok (.iconst 3, 1) := by decide +kernel
theorem dL_law_2666 : decode cL_law 2666 = .ok (.iadd, 1) := by decide +kernel
theorem dL_law_2667 : decode cL_law 2667 = .ok (.iaload, 1) := by decide +kernel
theorem dL_law_2668 : decode cL_law 2668 = .ok (.invokevirtual 302, 3) := by decide +kernel
theorem dL_law_2671 : decode cL_law 2671 = .ok (.istore 7, 2) := by decide +kernel
theorem dL_law_2673 : decode cL_law 2673 = .ok (.aload_n 2, 1) := by decide +kernel
theorem dL_law_2674 : decode cL_law 2674 = .ok (.invokevirtual 183, 3) := by decide +kernel
theorem dL_law_2677 : decode cL_law 2677 = .ok (.iload 6, 2) := by decide +kernel
theorem dL_law_2679 : decode cL_law 2679 = .ok (.if_icmp .eq 5, 3) := by decide +kernel
theorem dL_law_2684 : decode cL_law 2684 = .ok (.iload 6, 2) := by decide +kernel
theorem dL_law_2686 : decode cL_law 2686 = .ok (.ifCond .ne 15, 3) := by decide +kernel
theorem dL_law_2701 : decode cL_law 2701 = .ok (.goto 728, 3) := by decide +kernel
theorem dL_law_2704 : decode cL_law 2704 = .ok (.aload_n 1, 1) := by decide +kernel
theorem dL_law_2705 : decode cL_law 2705 = .ok (.aload_n 0, 1) := by decide +kernel
theorem dL_law_2706 : decode cL_law 2706 = .ok (.iload 5, 2) := by decide +kernel
theorem dL_law_2708 : decode cL_law 2708 = .ok (.iconst 1, 1) := by decide +kernel
theorem dL_law_2709 : decode cL_law 2709 = .ok (.iadd, 1) := by decide +kernel
theorem dL_law_2710 : decode cL_law 2710 = .ok (.iaload, 1) := by decide +kernel
theorem dL_law_2711 : decode cL_law 2711 = .ok (.aload_n 0, 1) := by decide +kernel
theorem dL_law_2712 : decode cL_law 2712 = .ok (.iload 5, 2) := by decide +kernel
theorem dL_law_2714 : decode cL_law 2714 = .ok (.iconst 2, 1) := by decide +kernel
theorem dL_law_2715 : decode cL_law 2715 = .ok (.iadd, 1) := by decide +kernel
theorem dL_law_2716 : decode cL_law 2716 = .ok (.iaload, 1) := by decide +kernel
theorem dL_law_2717 : decode cL_law 2717 = .ok (.aload_n 3, 1) := by decide +kernel
theorem dL_law_2718 : decode cL_law 2718 = .ok (.invokestatic 303, 3) := by decide +kernel
theorem dL_law_2721 : decode cL_law 2721 = .ok (.istore 6, 2) := by decide +kernel
theorem dL_law_2723 : decode cL_law 2723 = .ok (.aload_n 2, 1) := by decide +kernel
theorem dL_law_2724 : decode cL_law 2724 = .ok (.aload_n 0, 1) := by decide +kernel
theorem dL_law_2725 : decode cL_law 2725 = .ok (.iload 5, 2) := by decide +kernel
theorem dL_law_2727 : decode cL_law 2727 = .ok (.iconst 1, 1) := by decide +kernel
theorem dL_law_2728 : decode cL_law 2728 = .ok (.iadd, 1) := by decide +kernel
theorem dL_law_2729 : decode cL_law 2729 = .ok (.iaload, 1) := by decide +kernel
theorem dL_law_2730 : decode cL_law 2730 = .ok (.aload_n 0, 1) := by decide +kernel
theorem dL_law_2731 : decode cL_law 2731 = .ok (.iload 5, 2) := by decide +kernel
theorem dL_law_2733 : decode cL_law 2733 = .ok (.iconst 2, 1) := by decide +kernel
theorem dL_law_2734 : decode cL_law 2734 = .ok (.iadd, 1) := by decide +kernel
theorem dL_law_2735 : decode cL_law 2735 = .ok (.iaload, 1) := by decide +kernel
theorem dL_law_2736 : decode cL_law 2736 = .ok (.invokevirtual 305, 3) := by decide +kernel
theorem dL_law_2739 : decode cL_law 2739 = .ok (.istore 7, 2) := by decide +kernel
theorem dL_law_2741 : decode cL_law 2741 = .ok (.aload_n 2, 1) := by decide +kernel
theorem dL_law_2742 : decode cL_law 2742 = .ok (.invokevirtual 183, 3) := by decide +kernel
theorem dL_law_2745 : decode cL_law 2745 = .ok (.iload 6, 2) := by decide +kernel
theorem dL_law_2747 : decode cL_law 2747 = .ok (.if_icmp .eq 5, 3) := by decide +kernel
theorem dL_law_2752 : decode cL_law 2752 = .ok (.iload 6, 2) := by decide +kernel
theorem dL_law_2754 : decode cL_law 2754 = .ok (.ifCond .ne 15, 3) := by decide +kernel
theorem dL_law_2769 : decode cL_law 2769 = .ok (.goto 660, 3) := by decide +kernel
theorem dL_law_2772 : decode cL_law 2772 = .ok (.aload_n 1, 1) := by decide +kernel
theorem dL_law_2773 : decode cL_law 2773 = .ok (.aload_n 0, 1) := by decide +kernel
theorem dL_law_2774 : decode cL_law 2774 = .ok (.iload 5, 2) := by decide +kernel
theorem dL_law_2776 : decode cL_law 2776 = .ok (.iconst 1, 1) := by decide +kernel
theorem dL_law_2777 : decode cL_law 2777 = .ok (.iadd, 1) := by decide +kernel
theorem dL_law_2778 : decode cL_law 2778 = .ok (.iaload, 1) := by decide +kernel
theorem dL_law_2779 : decode cL_law 2779 = .ok (.aload_n 0, 1) := by decide +kernel
theorem dL_law_2780 : decode cL_law 2780 = .ok (.iload 5, 2) := by decide +kernel
theorem dL_law_2782 : decode cL_law 2782 = .ok (.iconst 2, 1) := by decide +kernel
theorem dL_law_2783 : decode cL_law 2783 = .ok (.iadd, 1) := by decide +kernel
theorem dL_law_2784 : decode cL_law 2784 = .ok (.iaload, 1) := by decide +kernel
theorem dL_law_2785 : decode cL_law 2785 = .ok (.aload_n 0, 1) := by decide +kernel
theorem dL_law_2786 : decode cL_law 2786 = .ok (.iload 5, 2) := by decide +kernel
theorem dL_law_2788 : decode cL_law 2788 = .ok (.iconst 3, 1) := by decide +kernel
theorem dL_law_2789 : decode cL_law 2789 = .ok (.iadd, 1) := by decide +kernel
theorem dL_law_2790 : decode cL_law 2790 = .ok (.iaload, 1) := by decide +kernel
theorem dL_law_2791 : decode cL_law 2791 = .ok (.aload_n 3, 1) := by decide +kernel
theorem dL_law_2792 : decode cL_law 2792 = .ok (.invokestatic 306, 3) := by decide +kernel
theorem dL_law_2795 : decode cL_law 2795 = .ok (.istore 6, 2) := by decide +kernel
theorem dL_law_2797 : decode cL_law 2797 = .ok (.aload_n 2, 1) := by decide +kernel
theorem dL_law_2798 : decode cL_law 2798 = .ok (.aload_n 0, 1) := by decide +kernel
theorem dL_law_2799 : decode cL_law 2799 = .ok (.iload 5, 2) := by decide +kernel
theorem dL_law_2801 : decode cL_law 2801 = .ok (.iconst 1, 1) := by decide +kernel
theorem dL_law_2802 : decode cL_law 2802 = .ok (.iadd, 1) := by decide +kernel
theorem dL_law_2803 : decode cL_law 2803 = .ok (.iaload, 1) := by decide +kernel
theorem dL_law_2804 : decode cL_law 2804 = .ok (.aload_n 0, 1) := by decide +kernel
theorem dL_law_2805 : decode cL_law 2805 = .ok (.iload 5, 2) := by decide +kernel
theorem dL_law_2807 : decode cL_law 2807 = .ok (.iconst 2, 1) := by decide +kernel
theorem dL_law_2808 : decode cL_law 2808 = .ok (.iadd, 1) := by decide +kernel
theorem dL_law_2809 : decode cL_law 2809 = .ok (.iaload, 1) := by decide +kernel
theorem dL_law_2810 : decode cL_law 2810 = .ok (.aload_n 0, 1) := by decide +kernel
theorem dL_law_2811 : decode cL_law 2811 = .ok (.iload 5, 2) := by decide +kernel
theorem dL_law_2813 : decode cL_law 2813 = .ok (.iconst 3, 1) := by decide +kernel
theorem dL_law_2814 : decode cL_law 2814 = .ok (.iadd, 1) := by decide +kernel
theorem dL_law_2815 : decode cL_law 2815 = .ok (.iaload, 1) := by decide +kernel
theorem dL_law_2816 : decode cL_law 2816 = .ok (.invokevirtual 308, 3) := by decide +kernel
theorem dL_law_2819 : decode cL_law 2819 = .ok (.istore 7, 2) := by decide +kernel
theorem dL_law_2821 : decode cL_law 2821 = .ok (.aload_n 2, 1) := by decide +kernel
theorem dL_law_2822 : decode cL_law 2822 = .ok (.invokevirtual 183, 3) := by decide +kernel
theorem dL_law_2825 : decode cL_law 2825 = .ok (.iload 6, 2) := by decide +kernel
theorem dL_law_2827 : decode cL_law 2827 = .ok (.if_icmp .eq 5, 3) := by decide +kernel
theorem dL_law_2832 : decode cL_law 2832 = .ok (.iload 6, 2) := by decide +kernel
theorem dL_law_2834 : decode cL_law 2834 = .ok (.ifCond .ne 15, 3) := by decide +kernel
theorem dL_law_2849 : decode cL_law 2849 = .ok (.goto 580, 3) := by decide +kernel
theorem dL_law_2852 : decode cL_law 2852 = .ok (.aload_n 1, 1) := by decide +kernel
theorem dL_law_2853 : decode cL_law 2853 = .ok (.aload_n 0, 1) := by decide +kernel
theorem dL_law_2854 : decode cL_law 2854 = .ok (.iload 5, 2) := by decide +kernel
theorem dL_law_2856 : decode cL_law 2856 = .ok (.iconst 1, 1) := by decide +kernel
theorem dL_law_2857 : decode cL_law 2857 = .ok (.iadd, 1) := by decide +kernel
theorem dL_law_2858 : decode cL_law 2858 = .ok (.iaload, 1) := by decide +kernel
theorem dL_law_2859 : decode cL_law 2859 = .ok (.aload_n 0, 1) := by decide +kernel
theorem dL_law_2860 : decode cL_law 2860 = .ok (.iload 5, 2) := by decide +kernel
theorem dL_law_2862 : decode cL_law 2862 = .ok (.iconst 2, 1) := by decide +kernel
theorem dL_law_2863 : decode cL_law 2863 = .ok (.iadd, 1) := by decide +kernel
theorem dL_law_2864 : decode cL_law 2864 = .ok (.iaload, 1) := by decide +kernel
theorem dL_law_2865 : decode cL_law 2865 = .ok (.aload_n 3, 1) := by decide +kernel
theorem dL_law_2866 : decode cL_law 2866 = .ok (.invokestatic 309, 3) := by decide +kernel
theorem dL_law_2869 : decode cL_law 2869 = .ok (.istore 6, 2) := by decide +kernel
theorem dL_law_2871 : decode cL_law 2871 = .ok (.aload_n 2, 1) := by decide +kernel
theorem dL_law_2872 : decode cL_law 2872 = .ok (.aload_n 0, 1) := by decide +kernel
theorem dL_law_2873 : decode cL_law 2873 = .ok (.iload 5, 2) := by decide +kernel
theorem dL_law_2875 : decode cL_law 2875 = .ok (.iconst 1, 1) := by decide +kernel
theorem dL_law_2876 : decode cL_law 2876 = .ok (.iadd, 1) := by decide +kernel
theorem dL_law_2877 : decode cL_law 2877 = .ok (.iaload, 1) := by decide +kernel
theorem dL_law_2878 : decode cL_law 2878 = .ok (.aload_n 0, 1) := by decide +kernel
theorem dL_law_2879 : decode cL_law 2879 = .ok (.iload 5, 2) := by decide +kernel
theorem dL_law_2881 : decode cL_law 2881 = .ok (.iconst 2, 1) := by decide +kernel
theorem dL_law_2882 : decode cL_law 2882 = .ok (.iadd, 1) := by decide +kernel
theorem dL_law_2883 : decode cL_law 2883 = .ok (.iaload, 1) := by decide +kernel
theorem dL_law_2884 : decode cL_law 2884 = .ok (.invokevirtual 311, 3) := by decide +kernel
theorem dL_law_2887 : decode cL_law 2887 = .ok (.istore 7, 2) := by decide +kernel
theorem dL_law_2889 : decode cL_law 2889 = .ok (.aload_n 2, 1) := by decide +kernel
theorem dL_law_2890 : decode cL_law 2890 = .ok (.invokevirtual 183, 3) := by decide +kernel
theorem dL_law_2893 : decode cL_law 2893 = .ok (.iload 6, 2) := by decide +kernel
theorem dL_law_2895 : decode cL_law 2895 = .ok (.if_icmp .eq 5, 3) := by decide +kernel
theorem dL_law_2900 : decode cL_law 2900 = .ok (.iload 6, 2) := by decide +kernel
theorem dL_law_2902 : decode cL_law 2902 = .ok (.ifCond .ne 15, 3) := by decide +kernel
theorem dL_law_2917 : decode cL_law 2917 = .ok (.goto 512, 3) := by decide +kernel
theorem dL_law_2920 : decode cL_law 2920 = .ok (.aload_n 1, 1) := by decide +kernel
theorem dL_law_2921 : decode cL_law 2921 = .ok (.aload_n 0, 1) := by decide +kernel
theorem dL_law_2922 : decode cL_law 2922 = .ok (.iload 5, 2) := by decide +kernel
theorem dL_law_2924 : decode cL_law 2924 = .ok (.iconst 1, 1) := by decide +kernel
theorem dL_law_2925 : decode cL_law 2925 = .ok (.iadd, 1) := by decide +kernel
theorem dL_law_2926 : decode cL_law 2926 = .ok (.iaload, 1) := by decide +kernel
theorem dL_law_2927 : decode cL_law 2927 = .ok (.aload_n 0, 1) := by decide +kernel
theorem dL_law_2928 : decode cL_law 2928 = .ok (.iload 5, 2) := by decide +kernel
theorem dL_law_2930 : decode cL_law 2930 = .ok (.iconst 2, 1) := by decide +kernel
theorem dL_law_2931 : decode cL_law 2931 = .ok (.iadd, 1) := by decide +kernel
theorem dL_law_2932 : decode cL_law 2932 = .ok (.iaload, 1) := by decide +kernel
theorem dL_law_2933 : decode cL_law 2933 = .ok (.aload_n 0, 1) := by decide +kernel
theorem dL_law_2934 : decode cL_law 2934 = .ok (.iload 5, 2) := by decide +kernel
theorem dL_law_2936 : decode cL_law 2936 = .ok (.iconst 3, 1) := by decide +kernel
theorem dL_law_2937 : decode cL_law 2937 = .ok (.iadd, 1) := by decide +kernel
theorem dL_law_2938 : decode cL_law 2938 = .ok (.iaload, 1) := by decide +kernel
theorem dL_law_2939 : decode cL_law 2939 = .ok (.aload_n 3, 1) := by decide +kernel
theorem dL_law_2940 : decode cL_law 2940 = .ok (.invokestatic 312, 3) := by decide +kernel
theorem dL_law_2943 : decode cL_law 2943 = .ok (.istore 6, 2) := by decide +kernel
theorem dL_law_2945 : decode cL_law 2945 = .ok (.aload_n 2, 1) := by decide +kernel
theorem dL_law_2946 : decode cL_law 2946 = .ok (.aload_n 0, 1) := by decide +kernel
theorem dL_law_2947 : decode cL_law 2947 = .ok (.iload 5, 2) := by decide +kernel
theorem dL_law_2949 : decode cL_law 2949 = .ok (.iconst 1, 1) := by decide +kernel
theorem dL_law_2950 : decode cL_law 2950 = .ok (.iadd, 1) := by decide +kernel
theorem dL_law_2951 : decode cL_law 2951 = .ok (.iaload, 1) := by decide +kernel
theorem dL_law_2952 : decode cL_law 2952 = .ok (.aload_n 0, 1) := by decide +kernel
theorem dL_law_2953 : decode cL_law 2953 = .ok (.iload 5, 2) := by decide +kernel
theorem dL_law_2955 : decode cL_law 2955 = .ok (.iconst 2, 1) := by decide +kernel
theorem dL_law_2956 : decode cL_law 2956 = .ok (.iadd, 1) := by decide +kernel
theorem dL_law_2957 : decode cL_law 2957 = .ok (.iaload, 1) := by decide +kernel
theorem dL_law_2958 : decode cL_law 2958 = .ok (.aload_n 0, 1) := by decide +kernel
theorem dL_law_2959 : decode cL_law 2959 = .ok (.iload 5, 2) := by decide +kernel
theorem dL_law_2961 : decode cL_law 2961 = .ok (.iconst 3, 1) := by decide +kernel
theorem dL_law_2962 : decode cL_law 2962 = .ok (.iadd, 1) := by decide +kernel
theorem dL_law_2963 : decode cL_law 2963 = .ok (.iaload, 1) := by decide +kernel
theorem dL_law_2964 : decode cL_law 2964 = .ok (.invokevirtual 314, 3) := by decide +kernel
theorem dL_law_2967 : decode cL_law 2967 = .ok (.istore 7, 2) := by decide +kernel
theorem dL_law_2969 : decode cL_law 2969 = .ok (.aload_n 2, 1) := by decide +kernel
theorem dL_law_2970 : decode cL_law 2970 = .ok (.invokevirtual 183, 3) := by decide +kernel
theorem dL_law_2973 : decode cL_law 2973 = .ok (.iload 6, 2) := by decide +kernel
theorem dL_law_2975 : decode cL_law 2975 = .ok (.if_icmp .eq 5, 3) := by decide +kernel
theorem dL_law_2980 : decode cL_law 2980 = .ok (.iload 6, 2) := by decide +kernel
theorem dL_law_2982 : decode cL_law 2982 = .ok (.ifCond .ne 15, 3) := by decide +kernel
theorem dL_law_2997 : decode cL_law 2997 = .ok (.goto 432, 3) := by decide +kernel
theorem dL_law_3000 : decode cL_law 3000 = .ok (.aload_n 1, 1) := by decide +kernel
theorem dL_law_3001 : decode cL_law 3001 = .ok (.aload_n 0, 1) := by decide +kernel
theorem dL_law_3002 : decode cL_law 3002 = .ok (.iload 5, 2) := by decide +kernel
theorem dL_law_3004 : decode cL_law 3004 = .ok (.iconst 1, 1) := by decide +kernel
theorem dL_law_3005 : decode cL_law 3005 = .ok (.iadd, 1) := by decide +kernel
theorem dL_law_3006 : decode cL_law 3006 = .ok (.iaload, 1) := by decide +kernel
theorem dL_law_3007 : decode cL_law 3007 = .ok (.aload_n 0, 1) := by decide +kernel
theorem dL_law_3008 : decode cL_law 3008 = .ok (.iload 5, 2) := by decide +kernel
theorem dL_law_3010 : decode cL_law 3010 = .ok (.iconst 2, 1) := by decide +kernel
theorem dL_law_3011 : decode cL_law 3011 = .ok (.iadd, 1) := by decide +kernel
theorem dL_law_3012 : decode cL_law 3012 = .ok (.iaload, 1) := by decide +kernel
theorem dL_law_3013 : decode cL_law 3013 = .ok (.aload_n 3, 1) := by decide +kernel
theorem dL_law_3014 : decode cL_law 3014 = .ok (.invokestatic 315, 3) := by decide +kernel
theorem dL_law_3017 : decode cL_law 3017 = .ok (.istore 6, 2) := by decide +kernel
theorem dL_law_3019 : decode cL_law 3019 = .ok (.aload_n 2, 1) := by decide +kernel
theorem dL_law_3020 : decode cL_law 3020 = .ok (.aload_n 0, 1) := by decide +kernel
theorem dL_law_3021 : decode cL_law 3021 = .ok (.iload 5, 2) := by decide +kernel
theorem dL_law_3023 : decode cL_law 3023 = .ok (.iconst 1, 1) := by decide +kernel
theorem dL_law_3024 : decode cL_law 3024 = .ok (.iadd, 1) := by decide +kernel
theorem dL_law_3025 : decode cL_law 3025 = .ok (.iaload, 1) := by decide +kernel
theorem dL_law_3026 : decode cL_law 3026 = .ok (.aload_n 0, 1) := by decide +kernel
theorem dL_law_3027 : decode cL_law 3027 = .ok (.iload 5, 2) := by decide +kernel
theorem dL_law_3029 : decode cL_law 3029 = .ok (.iconst 2, 1) := by decide +kernel
theorem dL_law_3030 : decode cL_law 3030 = .ok (.iadd, 1) := by decide +kernel
theorem dL_law_3031 : decode cL_law 3031 = .ok (.iaload, 1) := by decide +kernel
theorem dL_law_3032 : decode cL_law 3032 = .ok (.invokevirtual 317, 3) := by decide +kernel
theorem dL_law_3035 : decode cL_law 3035 = .ok (.istore 7, 2) := by decide +kernel
theorem dL_law_3037 : decode cL_law 3037 = .ok (.aload_n 2, 1) := by decide +kernel
theorem dL_law_3038 : decode cL_law 3038 = .ok (.invokevirtual 183, 3) := by decide +kernel
theorem dL_law_3041 : decode cL_law 3041 = .ok (.iload 6, 2) := by decide +kernel
theorem dL_law_3043 : decode cL_law 3043 = .ok (.if_icmp .eq 5, 3) := by decide +kernel
theorem dL_law_3048 : decode cL_law 3048 = .ok (.iload 6, 2) := by decide +kernel
theorem dL_law_3050 : decode cL_law 3050 = .ok (.ifCond .ne 15, 3) := by decide +kernel
theorem dL_law_3065 : decode cL_law 3065 = .ok (.goto 364, 3) := by decide +kernel
theorem dL_law_3068 : decode cL_law 3068 = .ok (.aload_n 1, 1) := by decide +kernel
theorem dL_law_3069 : decode cL_law 3069 = .ok (.aload_n 0, 1) := by decide +kernel
theorem dL_law_3070 : decode cL_law 3070 = .ok (.iload 5, 2) := by decide +kernel
theorem dL_law_3072 : decode cL_law 3072 = .ok (.iconst 1, 1) := by decide +kernel
theorem dL_law_3073 : decode cL_law 3073 = .ok (.iadd, 1) := by decide +kernel
theorem dL_law_3074 : decode cL_law 3074 = .ok (.iaload, 1) := by decide +kernel
theorem dL_law_3075 : decode cL_law 3075 = .ok (.aload_n 0, 1) := by decide +kernel
theorem dL_law_3076 : decode cL_law 3076 = .ok (.iload 5, 2) := by decide +kernel
theorem dL_law_3078 : decode cL_law 3078 = .ok (.iconst 2, 1) := by decide +kernel
theorem dL_law_3079 : decode cL_law 3079 = .ok (.iadd, 1) := by decide +kernel
theorem dL_law_3080 : decode cL_law 3080 = .ok (.iaload, 1) := by decide +kernel
theorem dL_law_3081 : decode cL_law 3081 = .ok (.aload_n 3, 1) := by decide +kernel
theorem dL_law_3082 : decode cL_law 3082 = .ok (.invokestatic 318, 3) := by decide +kernel
theorem dL_law_3085 : decode cL_law 3085 = .ok (.istore 6, 2) := by decide +kernel
theorem dL_law_3087 : decode cL_law 3087 = .ok (.aload_n 2, 1) := by decide +kernel
theorem dL_law_3088 : decode cL_law 3088 = .ok (.aload_n 0, 1) := by decide +kernel
theorem dL_law_3089 : decode cL_law 3089 = .ok (.iload 5, 2) := by decide +kernel
theorem dL_law_3091 : decode cL_law 3091 = .ok (.iconst 1, 1) := by decide +kernel
theorem dL_law_3092 : decode cL_law 3092 = .ok (.iadd, 1) := by decide +kernel
theorem dL_law_3093 : decode cL_law 3093 = .ok (.iaload, 1) := by decide +kernel
theorem dL_law_3094 : decode cL_law 3094 = .ok (.aload_n 0, 1) := by decide +kernel
theorem dL_law_3095 : decode cL_law 3095 = .ok (.iload 5, 2) := by decide +kernel
theorem dL_law_3097 : decode cL_law 3097 = .ok (.iconst 2, 1) := by decide +kernel
theorem dL_law_3098 : decode cL_law 3098 = .ok (.iadd, 1) := by decide +kernel
theorem dL_law_3099 : decode cL_law 3099 = .ok (.iaload, 1) := by decide +kernel
theorem dL_law_3100 : decode cL_law 3100 = .ok (.invokevirtual 320, 3) := by decide +kernel
theorem dL_law_3103 : decode cL_law 3103 = .ok (.lstore 7, 2) := by decide +kernel
theorem dL_law_3105 : decode cL_law 3105 = .ok (.aload_n 2, 1) := by decide +kernel
theorem dL_law_3106 : decode cL_law 3106 = .ok (.invokevirtual 183, 3) := by decide +kernel
theorem dL_law_3109 : decode cL_law 3109 = .ok (.iload 6, 2) := by decide +kernel
theorem dL_law_3111 : decode cL_law 3111 = .ok (.if_icmp .eq 5, 3) := by decide +kernel
theorem dL_law_3116 : decode cL_law 3116 = .ok (.iload 6, 2) := by decide +kernel
theorem dL_law_3118 : decode cL_law 3118 = .ok (.ifCond .ne 14, 3) := by decide +kernel
theorem dL_law_3121 : decode cL_law 3121 = .ok (.aload_n 3, 1) := by decide +kernel
theorem dL_law_3122 : decode cL_law 3122 = .ok (.iconst 0, 1) := by decide +kernel
theorem dL_law_3123 : decode cL_law 3123 = .ok (.laload, 1) := by decide +kernel
theorem dL_law_3124 : decode cL_law 3124 = .ok (.lload 7, 2) := by decide +kernel
theorem dL_law_3126 : decode cL_law 3126 = .ok (.lcmp, 1) := by decide +kernel
theorem dL_law_3127 : decode cL_law 3127 = .ok (.ifCond .eq 5, 3) := by decide +kernel
theorem dL_law_3132 : decode cL_law 3132 = .ok (.goto 297, 3) := by decide +kernel
theorem dL_law_3135 : decode cL_law 3135 = .ok (.aload_n 1, 1) := by decide +kernel
theorem dL_law_3136 : decode cL_law 3136 = .ok (.aload_n 0, 1) := by decide +kernel
theorem dL_law_3137 : decode cL_law 3137 = .ok (.iload 5, 2) := by decide +kernel
theorem dL_law_3139 : decode cL_law 3139 = .ok (.iconst 1, 1) := by decide +kernel
theorem dL_law_3140 : decode cL_law 3140 = .ok (.iadd, 1) := by decide +kernel
theorem dL_law_3141 : decode cL_law 3141 = .ok (.iaload, 1) := by decide +kernel
theorem dL_law_3142 : decode cL_law 3142 = .ok (.aload_n 0, 1) := by decide +kernel
theorem dL_law_3143 : decode cL_law 3143 = .ok (.iload 5, 2) := by decide +kernel
theorem dL_law_3145 : decode cL_law 3145 = .ok (.iconst 2, 1) := by decide +kernel
theorem dL_law_3146 : decode cL_law 3146 = .ok (.iadd, 1) := by decide +kernel
theorem dL_law_3147 : decode cL_law 3147 = .ok (.iaload, 1) := by decide +kernel
theorem dL_law_3148 : decode cL_law 3148 = .ok (.aload_n 0, 1) := by decide +kernel
theorem dL_law_3149 : decode cL_law 3149 = .ok (.iload 5, 2) := by decide +kernel
theorem dL_law_3151 : decode cL_law 3151 = .ok (.iconst 3, 1) := by decide +kernel
theorem dL_law_3152 : decode cL_law 3152 = .ok (.iadd, 1) := by decide +kernel
theorem dL_law_3153 : decode cL_law 3153 = .ok (.iaload, 1) := by decide +kernel
theorem dL_law_3154 : decode cL_law 3154 = .ok (.aload_n 3, 1) := by decide +kernel
theorem dL_law_3155 : decode cL_law 3155 = .ok (.invokestatic 321, 3) := by decide +kernel
theorem dL_law_3158 : decode cL_law 3158 = .ok (.istore 6, 2) := by decide +kernel
theorem dL_law_3160 : decode cL_law 3160 = .ok (.aload_n 2, 1) := by decide +kernel
theorem dL_law_3161 : decode cL_law 3161 = .ok (.aload_n 0, 1) := by decide +kernel
theorem dL_law_3162 : decode cL_law 3162 = .ok (.iload 5, 2) := by decide +kernel
theorem dL_law_3164 : decode cL_law 3164 = .ok (.iconst 1, 1) := by decide +kernel
theorem dL_law_3165 : decode cL_law 3165 = .ok (.iadd, 1) := by decide +kernel
theorem dL_law_3166 : decode cL_law 3166 = .ok (.iaload, 1) := by decide +kernel
theorem dL_law_3167 : decode cL_law 3167 = .ok (.aload_n 0, 1) := by decide +kernel
theorem dL_law_3168 : decode cL_law 3168 = .ok (.iload 5, 2) := by decide +kernel
theorem dL_law_3170 : decode cL_law 3170 = .ok (.iconst 2, 1) := by decide +kernel
theorem dL_law_3171 : decode cL_law 3171 = .ok (.iadd, 1) := by decide +kernel
theorem dL_law_3172 : decode cL_law 3172 = .ok (.iaload, 1) := by decide +kernel
theorem dL_law_3173 : decode cL_law 3173 = .ok (.aload_n 0, 1) := by decide +kernel
theorem dL_law_3174 : decode cL_law 3174 = .ok (.iload 5, 2) := by decide +kernel
theorem dL_law_3176 : decode cL_law 3176 = .ok (.iconst 3, 1) := by decide +kernel
theorem dL_law_3177 : decode cL_law 3177 = .ok (.iadd, 1) := by decide +kernel
theorem dL_law_3178 : decode cL_law 3178 = .ok (.iaload, 1) := by decide +kernel
theorem dL_law_3179 : decode cL_law 3179 = .ok (.invokevirtual 323, 3) := by decide +kernel
theorem dL_law_3182 : decode cL_law 3182 = .ok (.istore 7, 2) := by decide +kernel
theorem dL_law_3184 : decode cL_law 3184 = .ok (.aload_n 2, 1) := by decide +kernel
theorem dL_law_3185 : decode cL_law 3185 = .ok (.invokevirtual 183, 3) := by decide +kernel
theorem dL_law_3188 : decode cL_law 3188 = .ok (.iload 6, 2) := by decide +kernel
theorem dL_law_3190 : decode cL_law 3190 = .ok (.if_icmp .eq 5, 3) := by decide +kernel
theorem dL_law_3195 : decode cL_law 3195 = .ok (.iload 6, 2) := by decide +kernel
theorem dL_law_3197 : decode cL_law 3197 = .ok (.ifCond .ne 15, 3) := by decide +kernel
theorem dL_law_3212 : decode cL_law 3212 = .ok (.goto 217, 3) := by decide +kernel
theorem dL_law_3215 : decode cL_law 3215 = .ok (.aload_n 1, 1) := by decide +kernel
theorem dL_law_3216 : decode cL_law 3216 = .ok (.aload_n 3, 1) := by decide +kernel
theorem dL_law_3217 : decode cL_law 3217 = .ok (.invokestatic 324, 3) := by decide +kernel
theorem dL_law_3220 : decode cL_law 3220 = .ok (.istore 6, 2) := by decide +kernel
theorem dL_law_3222 : decode cL_law 3222 = .ok (.aload_n 2, 1) := by decide +kernel
theorem dL_law_3223 : decode cL_law 3223 = .ok (.invokevirtual 326, 3) := by decide +kernel
theorem dL_law_3226 : decode cL_law 3226 = .ok (.istore 7, 2) := by decide +kernel
theorem dL_law_3228 : decode cL_law 3228 = .ok (.aload_n 2, 1) := by decide +kernel
theorem dL_law_3229 : decode cL_law 3229 = .ok (.invokevirtual 183, 3) := by decide +kernel
theorem dL_law_3232 : decode cL_law 3232 = .ok (.iload 6, 2) := by decide +kernel
theorem dL_law_3234 : decode cL_law 3234 = .ok (.if_icmp .eq 5, 3) := by decide +kernel
theorem dL_law_3239 : decode cL_law 3239 = .ok (.iload 6, 2) := by decide +kernel
theorem dL_law_3241 : decode cL_law 3241 = .ok (.ifCond .ne 15, 3) := by decide +kernel
theorem dL_law_3256 : decode cL_law 3256 = .ok (.goto 173, 3) := by decide +kernel
theorem dL_law_3259 : decode cL_law 3259 = .ok (.aload_n 1, 1) := by decide +kernel
theorem dL_law_3260 : decode cL_law 3260 = .ok (.aload 4, 2) := by decide +kernel
theorem dL_law_3262 : decode cL_law 3262 = .ok (.invokestatic 327, 3) := by decide +kernel
theorem dL_law_3265 : decode cL_law 3265 = .ok (.istore 6, 2) := by decide +kernel
theorem dL_law_3267 : decode cL_law 3267 = .ok (.aload_n 2, 1) := by decide +kernel
theorem dL_law_3268 : decode cL_law 3268 = .ok (.invokevirtual 330, 3) := by decide +kernel
theorem dL_law_3271 : decode cL_law 3271 = .ok (.fstore 7, 2) := by decide +kernel
theorem dL_law_3273 : decode cL_law 3273 = .ok (.aload_n 2, 1) := by decide +kernel
theorem dL_law_3274 : decode cL_law 3274 = .ok (.invokevirtual 183, 3) := by decide +kernel
theorem dL_law_3277 : decode cL_law 3277 = .ok (.iload 6, 2) := by decide +kernel
theorem dL_law_3279 : decode cL_law 3279 = .ok (.if_icmp .eq 5, 3) := by decide +kernel
theorem dL_law_3284 : decode cL_law 3284 = .ok (.iload 6, 2) := by decide +kernel
theorem dL_law_3286 : decode cL_law 3286 = .ok (.ifCond .ne 36, 3) := by decide +kernel
theorem dL_law_3322 : decode cL_law 3322 = .ok (.goto 107, 3) := by decide +kernel
theorem dL_law_3325 : decode cL_law 3325 = .ok (.aload_n 1, 1) := by decide +kernel
theorem dL_law_3326 : decode cL_law 3326 = .ok (.aload_n 0, 1) := by decide +kernel
theorem dL_law_3327 : decode cL_law 3327 = .ok (.iload 5, 2) := by decide +kernel
theorem dL_law_3329 : decode cL_law 3329 = .ok (.iconst 1, 1) := by decide +kernel
theorem dL_law_3330 : decode cL_law 3330 = .ok (.iadd, 1) := by decide +kernel
theorem dL_law_3331 : decode cL_law 3331 = .ok (.iaload, 1) := by decide +kernel
theorem dL_law_3332 : decode cL_law 3332 = .ok (.aload 4, 2) := by decide +kernel
theorem dL_law_3334 : decode cL_law 3334 = .ok (.invokestatic 331, 3) := by decide +kernel
theorem dL_law_3337 : decode cL_law 3337 = .ok (.istore 6, 2) := by decide +kernel
theorem dL_law_3339 : decode cL_law 3339 = .ok (.aload_n 2, 1) := by decide +kernel
theorem dL_law_3340 : decode cL_law 3340 = .ok (.aload_n 0, 1) := by decide +kernel
theorem dL_law_3341 : decode cL_law 3341 = .ok (.iload 5, 2) := by decide +kernel
theorem dL_law_3343 : decode cL_law 3343 = .ok (.iconst 1, 1) := by decide +kernel
theorem dL_law_3344 : decode cL_law 3344 = .ok (.iadd, 1) := by decide +kernel
theorem dL_law_3345 : decode cL_law 3345 = .ok (.iaload, 1) := by decide +kernel
theorem dL_law_3346 : decode cL_law 3346 = .ok (.invokevirtual 334, 3) := by decide +kernel
theorem dL_law_3349 : decode cL_law 3349 = .ok (.dstore 7, 2) := by decide +kernel
theorem dL_law_3351 : decode cL_law 3351 = .ok (.aload_n 2, 1) := by decide +kernel
theorem dL_law_3352 : decode cL_law 3352 = .ok (.invokevirtual 183, 3) := by decide +kernel
theorem dL_law_3355 : decode cL_law 3355 = .ok (.iload 6, 2) := by decide +kernel
theorem dL_law_3357 : decode cL_law 3357 = .ok (.if_icmp .eq 5, 3) := by decide +kernel
theorem dL_law_3362 : decode cL_law 3362 = .ok (.iload 6, 2) := by decide +kernel
theorem dL_law_3364 : decode cL_law 3364 = .ok (.ifCond .ne 35, 3) := by decide +kernel
theorem dL_law_3399 : decode cL_law 3399 = .ok (.goto 30, 3) := by decide +kernel
theorem dL_law_3402 : decode cL_law 3402 = .ok (.aload_n 1, 1) := by decide +kernel
theorem dL_law_3403 : decode cL_law 3403 = .ok (.invokevirtual 335, 3) := by decide +kernel
theorem dL_law_3406 : decode cL_law 3406 = .ok (.aload_n 2, 1) := by decide +kernel
theorem dL_law_3407 : decode cL_law 3407 = .ok (.invokevirtual 339, 3) := by decide +kernel
theorem dL_law_3410 : decode cL_law 3410 = .ok (.lcmp, 1) := by decide +kernel
theorem dL_law_3411 : decode cL_law 3411 = .ok (.ifCond .eq 18, 3) := by decide +kernel
theorem dL_law_3416 : decode cL_law 3416 = .ok (.aload_n 1, 1) := by decide +kernel
theorem dL_law_3417 : decode cL_law 3417 = .ok (.invokevirtual 340, 3) := by decide +kernel
theorem dL_law_3420 : decode cL_law 3420 = .ok (.aload_n 2, 1) := by decide +kernel
theorem dL_law_3421 : decode cL_law 3421 = .ok (.invokevirtual 344, 3) := by decide +kernel
theorem dL_law_3424 : decode cL_law 3424 = .ok (.if_icmp .eq 5, 3) := by decide +kernel
def lwW (e0 : kE) (xa x1 x2 x3 x4 x5 g1 g2 g3 g4 h1 h2 h3 h4 h5 ma m1 m2 m3 m4 m5 m6 m7 m8 o1 o2 : Nat) (z1 z2 z3 z4 : ClassId) : va_W := [(xa, .inr (11, [.ref x1, .int 0, .ref x2, .int 0, .ref x3, .ref x4, .ref x5, .int 0])), (x3, .inr (9, [.ref g1, .int 0, .ref g2, .int 0, .ref g3, .ref g4])), (x4, .inr (8, [.ref h1, .ref h2, .int 0, .ref h3, .int 0, .ref h4, .int 0, .ref h5, .int 0, .int 0, .int 0])), (x1, .inl (z1, 6, .inr (.inr (.inr (.inr (fun _ => none)))))), (x2, .inl (z2, 24, .inr (.inr (.inr (.inr (fun _ => none)))))), (ma, .inr (16, [.int 0, .ref m1, .ref m2, .ref m3, .ref m4, .ref m5, .ref m6, .ref m7, .ref m8, .int 0, .int 0])), (m1, .inr (4, [.int 0, .ref e0.1, .int 0])), (m2, .inr (4, [.int 0, .ref e0.1, .int 0])), (m3, .inr (4, [.int 0, .ref e0.1, .int 0])), (m4, .inr (4, [.int 0, .ref e0.1, .int 0])), (m5, .inr (4, [.int 0, .ref e0.1, .int 0])), (m6, .inr (4, [.int 0, .ref e0.1, .int 0])), (m7, .inr (4, [.int 0, .ref e0.1, .int 0])), (m8, .inr (4, [.int 0, .ref e0.1, .int 0])), (o1, .inl (z3, 1, .inr (.inl (fun _ => 0)))), (o2, .inl (z4, 1, .inr (.inr (.inr (.inl (fun _ => 0))))))]
def lwT (z1 z2 z3 z4 : ClassId) : List (ClassId × FieldType) := [(z1, .object "Segueworks$Reel"), (z2, .object "Segueworks$Piece"), (z3, .long), (z4, .double)]
def lwL (b xa ma o1 o2 : Nat) : List (Nat × Value) := [(5, .int 0), (4, .ref o2), (3, .ref o1), (2, .ref ma), (1, .ref xa), (0, .ref b)]
def lwK (p : Program) (l : Launch) (e : Env) (s : State) (m : MethodId) (below : List Frame) (meth : Method) (c : Code) (Q : State → Prop) (b : Nat) (A : Nat → Prop) : Prop := ∀ (H : Heap) (locs : List Loc) (ls : Array Slot), va_S A s.heap H locs → lv_has ls 9 [(0, .ref b), (5, .int 0)] → W p l e room_1 s m #[Value.ref b] below meth c H locs 1000 100000 Q (F0 m 3429 ls [])
set_option maxHeartbeats 4000000 in
set_option maxRecDepth 100000 in
theorem law_1 {p : Program} {l : Launch} {e : Env} {s : State} {m : MethodId} {below : List Frame} {meth : Method} {c : Code} {Q : State → Prop} {b : Nat} {xs : Nat → Int32} {D : va_G} {e0 : kE} {A : Nat → Prop} (hst : l.stackTraces = false) (hx : p.tables.exec = Jvm.exec) (hb : c.code = cL_law) (hml : c.maxLocals = 9) (hts : ∀ w ∈ lw_tbl, w.before #[Value.ref b] s = true) (hown : s.vm.findClass RL = some m.cls) (hX : va_X b 5 xs s s.heap) (hbl : b < s.heap.size) (hbA : ¬ A b) {xa x1 x2 x3 x4 x5 g1 g2 g3 g4 h1 h2 h3 h4 h5 ma m1 m2 m3 m4 m5 m6 m7 m8 o1 o2 : Nat} {z1 z2 z3 z4 : ClassId}  {H : Heap} {locs : List Loc} {ls : Array Slot} (hh : kH D kStr e0 A s H (lwW e0 xa x1 x2 x3 x4 x5 g1 g2 g3 g4 h1 h2 h3 h4 h5 ma m1 m2 m3 m4 m5 m6 m7 m8 o1 o2 z1 z2 z3 z4) (lwT z1 z2 z3 z4) locs) (hl : lv_has ls 9 (lwL b xa ma o1 o2)) (kk : lwK p l e s m below meth c Q b A) : W p l e room_1 s m #[Value.ref b] below meth c H locs 100 10000 Q (F0 m 304 ls []) := by
  have hh : kH D kStr e0 A s H [(xa, .inr (11, [.ref x1, .int 0, .ref x2, .int 0, .ref x3, .ref x4, .ref x5, .int 0])), (ma, .inr (16, [.int 0, .ref m1, .ref m2, .ref m3, .ref m4, .ref m5, .ref m6, .ref m7, .ref m8, .int 0, .int 0])), (m1, .inr (4, [.int 0, .ref e0.1, .int 0])), (o1, .inl (z3, 1, .inr (.inl (fun _ => 0))))] [(z3, .long)] _ := hh.sub [0, 5, 6, 14] [2] rfl rfl rfl
  have hl : lv_has ls 9 [(5, .int 0), (4, .ref o2), (3, .ref o1), (2, .ref ma), (1, .ref xa), (0, .ref b)] := hl
  refine lv_aload_n hx hb dL_law_304 rfl (lv_at hl 4 rfl) ?_
  refine lv_aload_n hx hb dL_law_305 rfl (lv_at hl 5 rfl) ?_
  refine lv_iload hx hb dL_law_306 (lv_at hl 0 rfl) ?_
  refine lv_iconst (v := 1) hx hb dL_law_308 (by decide) ?_
  refine lv_iadd hx hb dL_law_309 ?_
  refine W.eq (g2 := F0 m 310 ls [.int 1, .ref b, .ref xa]) (by first | rfl | decide) ?_
  refine va_sld hx hb hX hbl hbA hh.2.2.2.1 (by unfold vp_in; decide) dL_law_310 ?_
  refine W.eq (g2 := F0 m 311 ls [.int (xs 1), .ref xa]) rfl ?_
  refine lv_aload_n hx hb dL_law_311 rfl (lv_at hl 5 rfl) ?_
  refine lv_iload hx hb dL_law_312 (lv_at hl 0 rfl) ?_
  refine lv_iconst (v := 2) hx hb dL_law_314 (by decide) ?_
  refine lv_iadd hx hb dL_law_315 ?_
  refine W.eq (g2 := F0 m 316 ls [.int 2, .ref b, .int (xs 1), .ref xa]) (by first | rfl | decide) ?_
  refine va_sld hx hb hX hbl hbA hh.2.2.2.1 (by unfold vp_in; decide) dL_law_316 ?_
  refine W.eq (g2 := F0 m 317 ls [.int (xs 2), .int (xs 1), .ref xa]) rfl ?_
  refine lv_aload_n hx hb dL_law_317 rfl (lv_at hl 2 rfl) ?_
  refine k_callSX (wr := [(ma, .inr (16, [.int 0, .ref m1, .ref m2, .ref m3, .ref m4, .ref m5, .ref m6, .ref m7, .ref m8, .int 0, .int 0])), (m1, .inr (4, [.int 0, .ref e0.1, .int 0]))]) (rest := []) (own := RL) ⟨hx, hb, hml, hown, hts⟩ (c_L_sample l hst D e0 xa x1 x2 x3 x4 x5 ((xs 1)) ((xs 2)) o1 z3 ((fun _ => 0)) ) (vx_cwSW 4 hts gl_S_c_L_sample rfl rfl rfl (by decide +kernel) ⟨Nat.le_of_ble_eq_true rfl, Nat.le_of_ble_eq_true rfl⟩) hh [0, 3] [1, 2] [0] rfl rfl rfl rfl (by decide) rfl rfl hl rfl (Nat.le_of_ble_eq_true rfl) dL_law_318 ⟨Nat.le_of_ble_eq_true rfl, (Nat.le_of_ble_eq_true rfl)⟩ (fun _ _ _ _ _ h => h.elim) (fun v w ty1 H locs hp hh => ?_)
  obtain ⟨rfl, rfl, rfl⟩ := hp
  have hh : kH D kStr e0 A s H [(ma, .inr (16, [.int 0, .ref m1, .ref m2, .ref m3, .ref m4, .ref m5, .ref m6, .ref m7, .ref m8, .int 0, .int 0])), (m1, .inr (4, [.int 0, .ref e0.1, .int 0])), (o1, .inl (z3, 1, .inr (.inl (fun _ => 0))))] [(z3, .long), (z3, .long)] _ := hh
  refine W.eq (g2 := F0 m 321 ls [.int 1]) (by first | rfl | decide) ?_
  refine lv_istore (lv' := [(6, .int 1), (5, .int 0), (4, .ref o2), (3, .ref o1), (2, .ref ma), (1, .ref xa), (0, .ref b)]) hx hb dL_law_321 hl (by decide) rfl (fun ls hl => ?_)
  refine lv_aload_n hx hb dL_law_323 rfl (lv_at hl 4 rfl) ?_
  refine lv_aload_n hx hb dL_law_324 rfl (lv_at hl 6 rfl) ?_
  refine lv_iload hx hb dL_law_325 (lv_at hl 1 rfl) ?_
  refine lv_iconst (v := 1) hx hb dL_law_327 (by decide) ?_
  refine lv_iadd hx hb dL_law_328 ?_
  refine W.eq (g2 := F0 m 329 ls [.int 1, .ref b, .ref ma]) (by first | rfl | decide) ?_
  refine va_sld hx hb hX hbl hbA hh.2.2.2.1 (by unfold vp_in; decide) dL_law_329 ?_
  refine W.eq (g2 := F0 m 330 ls [.int (xs 1), .ref ma]) rfl ?_
  refine lv_aload_n hx hb dL_law_330 rfl (lv_at hl 6 rfl) ?_
  refine lv_iload hx hb dL_law_331 (lv_at hl 1 rfl) ?_
  refine lv_iconst (v := 2) hx hb dL_law_333 (by decide) ?_
  refine lv_iadd hx hb dL_law_334 ?_
  refine W.eq (g2 := F0 m 335 ls [.int 2, .ref b, .int (xs 1), .ref ma]) (by first | rfl | decide) ?_
  refine va_sld hx hb hX hbl hbA hh.2.2.2.1 (by unfold vp_in; decide) dL_law_335 ?_
  refine W.eq (g2 := F0 m 336 ls [.int (xs 2), .int (xs 1), .ref ma]) rfl ?_
  refine k_callV (C := RX11) (T := TX11) (N := 11) (ci := 16) (q0 := 0) (wr := [(o1, .inl (z3, 1, .inr (.inl (fun _ => 0))))]) (rest := []) (own := RL) ⟨hx, hb, hml, hown, hts⟩ (c_X11_sample l hst D e0 ma 0 m1 m2 m3 m4 m5 m6 m7 m8 ((xs 1)) ((xs 2)) ) (cwV 2 hts gl_V_c_X11_sample rfl rfl rfl (by decide +kernel) ⟨Nat.le_of_ble_eq_true rfl, Nat.le_of_ble_eq_true rfl⟩) hh rfl rfl [0, 1] [2] [] rfl rfl rfl rfl (by decide) rfl rfl hl rfl (Nat.le_of_ble_eq_true rfl) dL_law_336 ⟨Nat.le_of_ble_eq_true rfl, (Nat.le_of_ble_eq_true rfl)⟩ (fun _ _ _ _ _ h => h.elim) (fun v w ty1 H locs hp hh => ?_)
  obtain ⟨rfl, rfl, rfl⟩ := hp
  have hh : kH D kStr e0 A s H [(o1, .inl (z3, 1, .inr (.inl (fun _ => 0)))), (ma, .inr (16, [.int 1, .ref m1, .ref m2, .ref m3, .ref m4, .ref m5, .ref m6, .ref m7, .ref m8, .int 0, .int 0]))] [(z3, .long), (z3, .long)] _ := hh
  refine W.eq (g2 := F0 m 339 ls [.int 0]) (by first | rfl | decide) ?_
  refine lv_istore (lv' := [(7, .int 0), (6, .int 1), (5, .int 0), (4, .ref o2), (3, .ref o1), (2, .ref ma), (1, .ref xa), (0, .ref b)]) hx hb dL_law_339 hl (by decide) rfl (fun ls hl => ?_)
  refine lv_aload_n hx hb dL_law_341 rfl (lv_at hl 5 rfl) ?_
  refine k_callV (C := RX11) (T := TX11) (N := 11) (ci := 16) (q0 := 1) (wr := [(o1, .inl (z3, 1, .inr (.inl (fun _ => 0))))]) (rest := []) (own := RL) ⟨hx, hb, hml, hown, hts⟩ (c_X11_thrown l hst D e0 ma 1 m1 m2 m3 m4 m5 m6 m7 m8 ) (cwV 0 hts gl_V_c_X11_thrown rfl rfl rfl (by decide +kernel) ⟨Nat.le_of_ble_eq_true rfl, Nat.le_of_ble_eq_true rfl⟩) hh rfl rfl [1] [0] [] rfl rfl rfl rfl (by decide) rfl rfl hl rfl (Nat.le_of_ble_eq_true rfl) dL_law_342 ⟨Nat.le_of_ble_eq_true rfl, (Nat.le_of_ble_eq_true rfl)⟩ (fun _ _ _ _ _ h => h.elim) (fun v w ty1 H locs hp hh => ?_)
  obtain ⟨rfl, rfl, rfl⟩ := hp
  have hh : kH D kStr e0 A s H [(o1, .inl (z3, 1, .inr (.inl (fun _ => 0)))), (ma, .inr (16, [.int 1, .ref m1, .ref m2, .ref m3, .ref m4, .ref m5, .ref m6, .ref m7, .ref m8, .int 0, .int 0]))] [(z3, .long), (z3, .long)] _ := hh
  refine W.eq (g2 := F0 m 345 ls [.int 1]) (by first | rfl | decide) ?_
  refine lv_iload hx hb dL_law_345 (lv_at hl 1 rfl) ?_
  refine lv_icmp_eq (tgt := 352) hx hb dL_law_347 (by decide) (fun _ => ?_) (fun c_347 => absurd (by decide) c_347)
  refine lv_iload hx hb dL_law_352 (lv_at hl 1 rfl) ?_
  refine lv_if_ne (tgt := 369) hx hb dL_law_354 (by decide) (fun _ => ?_) (fun c_354 => absurd c_354 (by decide))
  refine lv_goto (tgt := 3429) hx hb dL_law_369 (by decide) ?_
  refine W.widen (k := 1000) (n := 100000) (Nat.le_of_ble_eq_true rfl) (Nat.le_of_ble_eq_true rfl) ?_
  exact kk _ _ _ hh.2.2.2.1 (lv_sub hl [7, 2] rfl)
set_option maxHeartbeats 4000000 in
set_option maxRecDepth 100000 in
theorem law_2 {p : Program} {l : Launch} {e : Env} {s : State} {m : MethodId} {below : List Frame} {meth : Method} {c : Code} {Q : State → Prop} {b : Nat} {xs : Nat → Int32} {D : va_G} {e0 : kE} {A : Nat → Prop} (hst : l.stackTraces = false) (hx : p.tables.exec = Jvm.exec) (hb : c.code = cL_law) (hml : c.maxLocals = 9) (hts : ∀ w ∈ lw_tbl, w.before #[Value.ref b] s = true) (hown : s.vm.findClass RL = some m.cls) (hX : va_X b 5 xs s s.heap) (hbl : b < s.heap.size) (hbA : ¬ A b) {xa x1 x2 x3 x4 x5 g1 g2 g3 g4 h1 h2 h3 h4 h5 ma m1 m2 m3 m4 m5 m6 m7 m8 o1 o2 : Nat} {z1 z2 z3 z4 : ClassId}  {H : Heap} {locs : List Loc} {ls : Array Slot} (hh : kH D kStr e0 A s H (lwW e0 xa x1 x2 x3 x4 x5 g1 g2 g3 g4 h1 h2 h3 h4 h5 ma m1 m2 m3 m4 m5 m6 m7 m8 o1 o2 z1 z2 z3 z4) (lwT z1 z2 z3 z4) locs) (hl : lv_has ls 9 (lwL b xa ma o1 o2)) (kk : lwK p l e s m below meth c Q b A) : W p l e room_1 s m #[Value.ref b] below meth c H locs 100 10000 Q (F0 m 372 ls []) := by
  have hh : kH D kStr e0 A s H [(xa, .inr (11, [.ref x1, .int 0, .ref x2, .int 0, .ref x3, .ref x4, .ref x5, .int 0])), (ma, .inr (16, [.int 0, .ref m1, .ref m2, .ref m3, .ref m4, .ref m5, .ref m6, .ref m7, .ref m8, .int 0, .int 0])), (m1, .inr (4, [.int 0, .ref e0.1, .int 0])), (o1, .inl (z3, 1, .inr (.inl (fun _ => 0))))] [(z3, .long)] _ := hh.sub [0, 5, 6, 14] [2] rfl rfl rfl
  have hl : lv_has ls 9 [(5, .int 0), (4, .ref o2), (3, .ref o1), (2, .ref ma), (1, .ref xa), (0, .ref b)] := hl
  refine lv_aload_n hx hb dL_law_372 rfl (lv_at hl 4 rfl) ?_
  refine lv_aload_n hx hb dL_law_373 rfl (lv_at hl 5 rfl) ?_
  refine lv_iload hx hb dL_law_374 (lv_at hl 0 rfl) ?_
  refine lv_iconst (v := 1) hx hb dL_law_376 (by decide) ?_
  refine lv_iadd hx hb dL_law_377 ?_
  refine W.eq (g2 := F0 m 378 ls [.int 1, .ref b, .ref xa]) (by first | rfl | decide) ?_
  refine va_sld hx hb hX hbl hbA hh.2.2.2.1 (by unfold vp_in; decide) dL_law_378 ?_
  refine W.eq (g2 := F0 m 379 ls [.int (xs 1), .ref xa]) rfl ?_
  refine lv_aload_n hx hb dL_law_379 rfl (lv_at hl 5 rfl) ?_
  refine lv_iload hx hb dL_law_380 (lv_at hl 0 rfl) ?_
  refine lv_iconst (v := 2) hx hb dL_law_382 (by decide) ?_
  refine lv_iadd hx hb dL_law_383 ?_
  refine W.eq (g2 := F0 m 384 ls [.int 2, .ref b, .int (xs 1), .ref xa]) (by first | rfl | decide) ?_
  refine va_sld hx hb hX hbl hbA hh.2.2.2.1 (by unfold vp_in; decide) dL_law_384 ?_
  refine W.eq (g2 := F0 m 385 ls [.int (xs 2), .int (xs 1), .ref xa]) rfl ?_
  refine lv_aload_n hx hb dL_law_385 rfl (lv_at hl 5 rfl) ?_
  refine lv_iload hx hb dL_law_386 (lv_at hl 0 rfl) ?_
  refine lv_iconst (v := 3) hx hb dL_law_388 (by decide) ?_
  refine lv_iadd hx hb dL_law_389 ?_
  refine W.eq (g2 := F0 m 390 ls [.int 3, .ref b, .int (xs 2), .int (xs 1), .ref xa]) (by first | rfl | decide) ?_
  refine va_sld hx hb hX hbl hbA hh.2.2.2.1 (by unfold vp_in; decide) dL_law_390 ?_
  refine W.eq (g2 := F0 m 391 ls [.int (xs 3), .int (xs 2), .int (xs 1), .ref xa]) rfl ?_
  refine lv_aload_n hx hb dL_law_391 rfl (lv_at hl 5 rfl) ?_
  refine lv_iload hx hb dL_law_392 (lv_at hl 0 rfl) ?_
  refine lv_iconst (v := 4) hx hb dL_law_394 (by decide) ?_
  refine lv_iadd hx hb dL_law_395 ?_
  refine W.eq (g2 := F0 m 396 ls [.int 4, .ref b, .int (xs 3), .int (xs 2), .int (xs 1), .ref xa]) (by first | rfl | decide) ?_
  refine va_sld hx hb hX hbl hbA hh.2.2.2.1 (by unfold vp_in; decide) dL_law_396 ?_
  refine W.eq (g2 := F0 m 397 ls [.int (xs 4), .int (xs 3), .int (xs 2), .int (xs 1), .ref xa]) rfl ?_
  refine lv_aload_n hx hb dL_law_397 rfl (lv_at hl 2 rfl) ?_
  refine k_callSX (wr := [(ma, .inr (16, [.int 0, .ref m1, .ref m2, .ref m3, .ref m4, .ref m5, .ref m6, .ref m7, .ref m8, .int 0, .int 0])), (m1, .inr (4, [.int 0, .ref e0.1, .int 0]))]) (rest := []) (own := RL) ⟨hx, hb, hml, hown, hts⟩ (c_L_wave l hst D e0 xa x1 x2 x3 x4 x5 ((xs 1)) ((xs 2)) ((xs 3)) ((xs 4)) o1 z3 ((fun _ => 0)) ) (vx_cwSW 6 hts gl_S_c_L_wave rfl rfl rfl (by decide +kernel) ⟨Nat.le_of_ble_eq_true rfl, Nat.le_of_ble_eq_true rfl⟩) hh [0, 3] [1, 2] [0] rfl rfl rfl rfl (by decide) rfl rfl hl rfl (Nat.le_of_ble_eq_true rfl) dL_law_398 ⟨Nat.le_of_ble_eq_true rfl, (Nat.le_of_ble_eq_true rfl)⟩ (fun _ _ _ _ _ h => h.elim) (fun v w ty1 H locs hp hh => ?_)
  obtain ⟨rfl, rfl, rfl⟩ := hp
  have hh : kH D kStr e0 A s H [(ma, .inr (16, [.int 0, .ref m1, .ref m2, .ref m3, .ref m4, .ref m5, .ref m6, .ref m7, .ref m8, .int 0, .int 0])), (m1, .inr (4, [.int 0, .ref e0.1, .int 0])), (o1, .inl (z3, 1, .inr (.inl (fun _ => 0))))] [(z3, .long), (z3, .long)] _ := hh
  refine W.eq (g2 := F0 m 401 ls [.int 1]) (by first | rfl | decide) ?_
  refine lv_istore (lv' := [(6, .int 1), (5, .int 0), (4, .ref o2), (3, .ref o1), (2, .ref ma), (1, .ref xa), (0, .ref b)]) hx hb dL_law_401 hl (by decide) rfl (fun ls hl => ?_)
  refine lv_aload_n hx hb dL_law_403 rfl (lv_at hl 4 rfl) ?_
  refine lv_aload_n hx hb dL_law_404 rfl (lv_at hl 6 rfl) ?_
  refine lv_iload hx hb dL_law_405 (lv_at hl 1 rfl) ?_
  refine lv_iconst (v := 1) hx hb dL_law_407 (by decide) ?_
  refine lv_iadd hx hb dL_law_408 ?_
  refine W.eq (g2 := F0 m 409 ls [.int 1, .ref b, .ref ma]) (by first | rfl | decide) ?_
  refine va_sld hx hb hX hbl hbA hh.2.2.2.1 (by unfold vp_in; decide) dL_law_409 ?_
  refine W.eq (g2 := F0 m 410 ls [.int (xs 1), .ref ma]) rfl ?_
  refine lv_aload_n hx hb dL_law_410 rfl (lv_at hl 6 rfl) ?_
  refine lv_iload hx hb dL_law_411 (lv_at hl 1 rfl) ?_
  refine lv_iconst (v := 2) hx hb dL_law_413 (by decide) ?_
  refine lv_iadd hx hb dL_law_414 ?_
  refine W.eq (g2 := F0 m 415 ls [.int 2, .ref b, .int (xs 1), .ref ma]) (by first | rfl | decide) ?_
  refine va_sld hx hb hX hbl hbA hh.2.2.2.1 (by unfold vp_in; decide) dL_law_415 ?_
  refine W.eq (g2 := F0 m 416 ls [.int (xs 2), .int (xs 1), .ref ma]) rfl ?_
  refine lv_aload_n hx hb dL_law_416 rfl (lv_at hl 6 rfl) ?_
  refine lv_iload hx hb dL_law_417 (lv_at hl 1 rfl) ?_
  refine lv_iconst (v := 3) hx hb dL_law_419 (by decide) ?_
  refine lv_iadd hx hb dL_law_420 ?_
  refine W.eq (g2 := F0 m 421 ls [.int 3, .ref b, .int (xs 2), .int (xs 1), .ref ma]) (by first | rfl | decide) ?_
  refine va_sld hx hb hX hbl hbA hh.2.2.2.1 (by unfold vp_in; decide) dL_law_421 ?_
  refine W.eq (g2 := F0 m 422 ls [.int (xs 3), .int (xs 2), .int (xs 1), .ref ma]) rfl ?_
  refine lv_aload_n hx hb dL_law_422 rfl (lv_at hl 6 rfl) ?_
  refine lv_iload hx hb dL_law_423 (lv_at hl 1 rfl) ?_
  refine lv_iconst (v := 4) hx hb dL_law_425 (by decide) ?_
  refine lv_iadd hx hb dL_law_426 ?_
  refine W.eq (g2 := F0 m 427 ls [.int 4, .ref b, .int (xs 3), .int (xs 2), .int (xs 1), .ref ma]) (by first | rfl | decide) ?_
  refine va_sld hx hb hX hbl hbA hh.2.2.2.1 (by unfold vp_in; decide) dL_law_427 ?_
  refine W.eq (g2 := F0 m 428 ls [.int (xs 4), .int (xs 3), .int (xs 2), .int (xs 1), .ref ma]) rfl ?_
  refine k_callV (C := RX11) (T := TX11) (N := 11) (ci := 16) (q0 := 0) (wr := [(o1, .inl (z3, 1, .inr (.inl (fun _ => 0))))]) (rest := []) (own := RL) ⟨hx, hb, hml, hown, hts⟩ (c_X11_wave l hst D e0 ma 0 m1 m2 m3 m4 m5 m6 m7 m8 ((xs 1)) ((xs 2)) ((xs 3)) ((xs 4)) ) (cwV 4 hts gl_V_c_X11_wave rfl rfl rfl (by decide +kernel) ⟨Nat.le_of_ble_eq_true rfl, Nat.le_of_ble_eq_true rfl⟩) hh rfl rfl [0, 1] [2] [] rfl rfl rfl rfl (by decide) rfl rfl hl rfl (Nat.le_of_ble_eq_true rfl) dL_law_428 ⟨Nat.le_of_ble_eq_true rfl, (Nat.le_of_ble_eq_true rfl)⟩ (fun _ _ _ _ _ h => h.elim) (fun v w ty1 H locs hp hh => ?_)
  obtain ⟨rfl, rfl, rfl⟩ := hp
  have hh : kH D kStr e0 A s H [(o1, .inl (z3, 1, .inr (.inl (fun _ => 0)))), (ma, .inr (16, [.int 1, .ref m1, .ref m2, .ref m3, .ref m4, .ref m5, .ref m6, .ref m7, .ref m8, .int 0, .int 0]))] [(z3, .long), (z3, .long)] _ := hh
  refine W.eq (g2 := F0 m 431 ls [.int 0]) (by first | rfl | decide) ?_
  refine lv_istore (lv' := [(7, .int 0), (6, .int 1), (5, .int 0), (4, .ref o2), (3, .ref o1), (2, .ref ma), (1, .ref xa), (0, .ref b)]) hx hb dL_law_431 hl (by decide) rfl (fun ls hl => ?_)
  refine lv_aload_n hx hb dL_law_433 rfl (lv_at hl 5 rfl) ?_
  refine k_callV (C := RX11) (T := TX11) (N := 11) (ci := 16) (q0 := 1) (wr := [(o1, .inl (z3, 1, .inr (.inl (fun _ => 0))))]) (rest := []) (own := RL) ⟨hx, hb, hml, hown, hts⟩ (c_X11_thrown l hst D e0 ma 1 m1 m2 m3 m4 m5 m6 m7 m8 ) (cwV 0 hts gl_V_c_X11_thrown rfl rfl rfl (by decide +kernel) ⟨Nat.le_of_ble_eq_true rfl, Nat.le_of_ble_eq_true rfl⟩) hh rfl rfl [1] [0] [] rfl rfl rfl rfl (by decide) rfl rfl hl rfl (Nat.le_of_ble_eq_true rfl) dL_law_434 ⟨Nat.le_of_ble_eq_true rfl, (Nat.le_of_ble_eq_true rfl)⟩ (fun _ _ _ _ _ h => h.elim) (fun v w ty1 H locs hp hh => ?_)
  obtain ⟨rfl, rfl, rfl⟩ := hp
  have hh : kH D kStr e0 A s H [(o1, .inl (z3, 1, .inr (.inl (fun _ => 0)))), (ma, .inr (16, [.int 1, .ref m1, .ref m2, .ref m3, .ref m4, .ref m5, .ref m6, .ref m7, .ref m8, .int 0, .int 0]))] [(z3, .long), (z3, .long)] _ := hh
  refine W.eq (g2 := F0 m 437 ls [.int 1]) (by first | rfl | decide) ?_
  refine lv_iload hx hb dL_law_437 (lv_at hl 1 rfl) ?_
  refine lv_icmp_eq (tgt := 444) hx hb dL_law_439 (by decide) (fun _ => ?_) (fun c_439 => absurd (by decide) c_439)
  refine lv_iload hx hb dL_law_444 (lv_at hl 1 rfl) ?_
  refine lv_if_ne (tgt := 461) hx hb dL_law_446 (by decide) (fun _ => ?_) (fun c_446 => absurd c_446 (by decide))
  refine lv_goto (tgt := 3429) hx hb dL_law_461 (by decide) ?_
  refine W.widen (k := 1000) (n := 100000) (Nat.le_of_ble_eq_true rfl) (Nat.le_of_ble_eq_true rfl) ?_
  exact kk _ _ _ hh.2.2.2.1 (lv_sub hl [7, 2] rfl)
set_option maxHeartbeats 4000000 in
set_option maxRecDepth 100000 in
theorem law_3 {p : Program} {l : Launch} {e : Env} {s : State} {m : MethodId} {below : List Frame} {meth : Method} {c : Code} {Q : State → Prop} {b : Nat} {xs : Nat → Int32} {D : va_G} {e0 : kE} {A : Nat → Prop} (hst : l.stackTraces = false) (hx : p.tables.exec = Jvm.exec) (hb : c.code = cL_law) (hml : c.maxLocals = 9) (hts : ∀ w ∈ lw_tbl, w.before #[Value.ref b] s = true) (hown : s.vm.findClass RL = some m.cls) (hX : va_X b 5 xs s s.heap) (hbl : b < s.heap.size) (hbA : ¬ A b) {xa x1 x2 x3 x4 x5 g1 g2 g3 g4 h1 h2 h3 h4 h5 ma m1 m2 m3 m4 m5 m6 m7 m8 o1 o2 : Nat} {z1 z2 z3 z4 : ClassId}  {H : Heap} {locs : List Loc} {ls : Array Slot} (hh : kH D kStr e0 A s H (lwW e0 xa x1 x2 x3 x4 x5 g1 g2 g3 g4 h1 h2 h3 h4 h5 ma m1 m2 m3 m4 m5 m6 m7 m8 o1 o2 z1 z2 z3 z4) (lwT z1 z2 z3 z4) locs) (hl : lv_has ls 9 (lwL b xa ma o1 o2)) (kk : lwK p l e s m below meth c Q b A) : W p l e room_1 s m #[Value.ref b] below meth c H locs 100 10000 Q (F0 m 464 ls []) := by
  have hh : kH D kStr e0 A s H [(xa, .inr (11, [.ref x1, .int 0, .ref x2, .int 0, .ref x3, .ref x4, .ref x5, .int 0])), (ma, .inr (16, [.int 0, .ref m1, .ref m2, .ref m3, .ref m4, .ref m5, .ref m6, .ref m7, .ref m8, .int 0, .int 0])), (m1, .inr (4, [.int 0, .ref e0.1, .int 0])), (o1, .inl (z3, 1, .inr (.inl (fun _ => 0))))] [(z3, .long)] _ := hh.sub [0, 5, 6, 14] [2] rfl rfl rfl
  have hl : lv_has ls 9 [(5, .int 0), (4, .ref o2), (3, .ref o1), (2, .ref ma), (1, .ref xa), (0, .ref b)] := hl
  refine lv_aload_n hx hb dL_law_464 rfl (lv_at hl 4 rfl) ?_
  refine lv_aload_n hx hb dL_law_465 rfl (lv_at hl 5 rfl) ?_
  refine lv_iload hx hb dL_law_466 (lv_at hl 0 rfl) ?_
  refine lv_iconst (v := 1) hx hb dL_law_468 (by decide) ?_
  refine lv_iadd hx hb dL_law_469 ?_
  refine W.eq (g2 := F0 m 470 ls [.int 1, .ref b, .ref xa]) (by first | rfl | decide) ?_
  refine va_sld hx hb hX hbl hbA hh.2.2.2.1 (by unfold vp_in; decide) dL_law_470 ?_
  refine W.eq (g2 := F0 m 471 ls [.int (xs 1), .ref xa]) rfl ?_
  refine lv_aload_n hx hb dL_law_471 rfl (lv_at hl 2 rfl) ?_
  refine k_callSX (wr := [(ma, .inr (16, [.int 0, .ref m1, .ref m2, .ref m3, .ref m4, .ref m5, .ref m6, .ref m7, .ref m8, .int 0, .int 0])), (m1, .inr (4, [.int 0, .ref e0.1, .int 0]))]) (rest := []) (own := RL) ⟨hx, hb, hml, hown, hts⟩ (c_L_reelLength l hst D e0 xa x1 x2 x3 x4 x5 ((xs 1)) o1 z3 ((fun _ => 0)) ) (vx_cwSW 3 hts gl_S_c_L_reelLength rfl rfl rfl (by decide +kernel) ⟨Nat.le_of_ble_eq_true rfl, Nat.le_of_ble_eq_true rfl⟩) hh [0, 3] [1, 2] [0] rfl rfl rfl rfl (by decide) rfl rfl hl rfl (Nat.le_of_ble_eq_true rfl) dL_law_472 ⟨Nat.le_of_ble_eq_true rfl, (Nat.le_of_ble_eq_true rfl)⟩ (fun _ _ _ _ _ h => h.elim) (fun v w ty1 H locs hp hh => ?_)
  obtain ⟨rfl, rfl, rfl⟩ := hp
  have hh : kH D kStr e0 A s H [(ma, .inr (16, [.int 0, .ref m1, .ref m2, .ref m3, .ref m4, .ref m5, .ref m6, .ref m7, .ref m8, .int 0, .int 0])), (m1, .inr (4, [.int 0, .ref e0.1, .int 0])), (o1, .inl (z3, 1, .inr (.inl (fun _ => 0))))] [(z3, .long), (z3, .long)] _ := hh
  refine W.eq (g2 := F0 m 475 ls [.int 1]) (by first | rfl | decide) ?_
  refine lv_istore (lv' := [(6, .int 1), (5, .int 0), (4, .ref o2), (3, .ref o1), (2, .ref ma), (1, .ref xa), (0, .ref b)]) hx hb dL_law_475 hl (by decide) rfl (fun ls hl => ?_)
  refine lv_aload_n hx hb dL_law_477 rfl (lv_at hl 4 rfl) ?_
  refine lv_aload_n hx hb dL_law_478 rfl (lv_at hl 6 rfl) ?_
  refine lv_iload hx hb dL_law_479 (lv_at hl 1 rfl) ?_
  refine lv_iconst (v := 1) hx hb dL_law_481 (by decide) ?_
  refine lv_iadd hx hb dL_law_482 ?_
  refine W.eq (g2 := F0 m 483 ls [.int 1, .ref b, .ref ma]) (by first | rfl | decide) ?_
  refine va_sld hx hb hX hbl hbA hh.2.2.2.1 (by unfold vp_in; decide) dL_law_483 ?_
  refine W.eq (g2 := F0 m 484 ls [.int (xs 1), .ref ma]) rfl ?_
  refine k_callV (C := RX11) (T := TX11) (N := 11) (ci := 16) (q0 := 0) (wr := [(o1, .inl (z3, 1, .inr (.inl (fun _ => 0))))]) (rest := []) (own := RL) ⟨hx, hb, hml, hown, hts⟩ (c_X11_reelLength l hst D e0 ma 0 m1 m2 m3 m4 m5 m6 m7 m8 ((xs 1)) ) (cwV 1 hts gl_V_c_X11_reelLength rfl rfl rfl (by decide +kernel) ⟨Nat.le_of_ble_eq_true rfl, Nat.le_of_ble_eq_true rfl⟩) hh rfl rfl [0, 1] [2] [] rfl rfl rfl rfl (by decide) rfl rfl hl rfl (Nat.le_of_ble_eq_true rfl) dL_law_484 ⟨Nat.le_of_ble_eq_true rfl, (Nat.le_of_ble_eq_true rfl)⟩ (fun _ _ _ _ _ h => h.elim) (fun v w ty1 H locs hp hh => ?_)
  obtain ⟨rfl, rfl, rfl⟩ := hp
  have hh : kH D kStr e0 A s H [(o1, .inl (z3, 1, .inr (.inl (fun _ => 0)))), (ma, .inr (16, [.int 1, .ref m1, .ref m2, .ref m3, .ref m4, .ref m5, .ref m6, .ref m7, .ref m8, .int 0, .int 0]))] [(z3, .long), (z3, .long)] _ := hh
  refine W.eq (g2 := F0 m 487 ls [.int 0]) (by first | rfl | decide) ?_
  refine lv_istore (lv' := [(7, .int 0), (6, .int 1), (5, .int 0), (4, .ref o2), (3, .ref o1), (2, .ref ma), (1, .ref xa), (0, .ref b)]) hx hb dL_law_487 hl (by decide) rfl (fun ls hl => ?_)
  refine lv_aload_n hx hb dL_law_489 rfl (lv_at hl 5 rfl) ?_
  refine k_callV (C := RX11) (T := TX11) (N := 11) (ci := 16) (q0 := 1) (wr := [(o1, .inl (z3, 1, .inr (.inl (fun _ => 0))))]) (rest := []) (own := RL) ⟨hx, hb, hml, hown, hts⟩ (c_X11_thrown l hst D e0 ma 1 m1 m2 m3 m4 m5 m6 m7 m8 ) (cwV 0 hts gl_V_c_X11_thrown rfl rfl rfl (by decide +kernel) ⟨Nat.le_of_ble_eq_true rfl, Nat.le_of_ble_eq_true rfl⟩) hh rfl rfl [1] [0] [] rfl rfl rfl rfl (by decide) rfl rfl hl rfl (Nat.le_of_ble_eq_true rfl) dL_law_490 ⟨Nat.le_of_ble_eq_true rfl, (Nat.le_of_ble_eq_true rfl)⟩ (fun _ _ _ _ _ h => h.elim) (fun v w ty1 H locs hp hh => ?_)
  obtain ⟨rfl, rfl, rfl⟩ := hp
  have hh : kH D kStr e0 A s H [(o1, .inl (z3, 1, .inr (.inl (fun _ => 0)))), (ma, .inr (16, [.int 1, .ref m1, .ref m2, .ref m3, .ref m4, .ref m5, .ref m6, .ref m7, .ref m8, .int 0, .int 0]))] [(z3, .long), (z3, .long)] _ := hh
  refine W.eq (g2 := F0 m 493 ls [.int 1]) (by first | rfl | decide) ?_
  refine lv_iload hx hb dL_law_493 (lv_at hl 1 rfl) ?_
  refine lv_icmp_eq (tgt := 500) hx hb dL_law_495 (by decide) (fun _ => ?_) (fun c_495 => absurd (by decide) c_495)
  refine lv_iload hx hb dL_law_500 (lv_at hl 1 rfl) ?_
  refine lv_if_ne (tgt := 517) hx hb dL_law_502 (by decide) (fun _ => ?_) (fun c_502 => absurd c_502 (by decide))
  refine lv_goto (tgt := 3429) hx hb dL_law_517 (by decide) ?_
  refine W.widen (k := 1000) (n := 100000) (Nat.le_of_ble_eq_true rfl) (Nat.le_of_ble_eq_true rfl) ?_
  exact kk _ _ _ hh.2.2.2.1 (lv_sub hl [7, 2] rfl)
set_option maxHeartbeats 4000000 in
set_option maxRecDepth 100000 in
theorem law_4 {p : Program} {l : Launch} {e : Env} {s : State} {m : MethodId} {below : List Frame} {meth : Method} {c : Code} {Q : State → Prop} {b : Nat} {xs : Nat → Int32} {D : va_G} {e0 : kE} {A : Nat → Prop} (hst : l.stackTraces = false) (hx : p.tables.exec = Jvm.exec) (hb : c.code = cL_law) (hml : c.maxLocals = 9) (hts : ∀ w ∈ lw_tbl, w.before #[Value.ref b] s = true) (hown : s.vm.findClass RL = some m.cls) (hX : va_X b 5 xs s s.heap) (hbl : b < s.heap.size) (hbA : ¬ A b) {xa x1 x2 x3 x4 x5 g1 g2 g3 g4 h1 h2 h3 h4 h5 ma m1 m2 m3 m4 m5 m6 m7 m8 o1 o2 : Nat} {z1 z2 z3 z4 : ClassId}  {H : Heap} {locs : List Loc} {ls : Array Slot} (hh : kH D kStr e0 A s H (lwW e0 xa x1 x2 x3 x4 x5 g1 g2 g3 g4 h1 h2 h3 h4 h5 ma m1 m2 m3 m4 m5 m6 m7 m8 o1 o2 z1 z2 z3 z4) (lwT z1 z2 z3 z4) locs) (hl : lv_has ls 9 (lwL b xa ma o1 o2)) (kk : lwK p l e s m below meth c Q b A) : W p l e room_1 s m #[Value.ref b] below meth c H locs 100 10000 Q (F0 m 520 ls []) := by
  have hh : kH D kStr e0 A s H [(xa, .inr (11, [.ref x1, .int 0, .ref x2, .int 0, .ref x3, .ref x4, .ref x5, .int 0])), (ma, .inr (16, [.int 0, .ref m1, .ref m2, .ref m3, .ref m4, .ref m5, .ref m6, .ref m7, .ref m8, .int 0, .int 0])), (m1, .inr (4, [.int 0, .ref e0.1, .int 0])), (o1, .inl (z3, 1, .inr (.inl (fun _ => 0))))] [(z3, .long)] _ := hh.sub [0, 5, 6, 14] [2] rfl rfl rfl
  have hl : lv_has ls 9 [(5, .int 0), (4, .ref o2), (3, .ref o1), (2, .ref ma), (1, .ref xa), (0, .ref b)] := hl
  refine lv_aload_n hx hb dL_law_520 rfl (lv_at hl 4 rfl) ?_
  refine lv_aload_n hx hb dL_law_521 rfl (lv_at hl 5 rfl) ?_
  refine lv_iload hx hb dL_law_522 (lv_at hl 0 rfl) ?_
  refine lv_iconst (v := 1) hx hb dL_law_524 (by decide) ?_
  refine lv_iadd hx hb dL_law_525 ?_
  refine W.eq (g2 := F0 m 526 ls [.int 1, .ref b, .ref xa]) (by first | rfl | decide) ?_
  refine va_sld hx hb hX hbl hbA hh.2.2.2.1 (by unfold vp_in; decide) dL_law_526 ?_
  refine W.eq (g2 := F0 m 527 ls [.int (xs 1), .ref xa]) rfl ?_
  refine lv_aload_n hx hb dL_law_527 rfl (lv_at hl 5 rfl) ?_
  refine lv_iload hx hb dL_law_528 (lv_at hl 0 rfl) ?_
  refine lv_iconst (v := 2) hx hb dL_law_530 (by decide) ?_
  refine lv_iadd hx hb dL_law_531 ?_
  refine W.eq (g2 := F0 m 532 ls [.int 2, .ref b, .int (xs 1), .ref xa]) (by first | rfl | decide) ?_
  refine va_sld hx hb hX hbl hbA hh.2.2.2.1 (by unfold vp_in; decide) dL_law_532 ?_
  refine W.eq (g2 := F0 m 533 ls [.int (xs 2), .int (xs 1), .ref xa]) rfl ?_
  refine lv_aload_n hx hb dL_law_533 rfl (lv_at hl 5 rfl) ?_
  refine lv_iload hx hb dL_law_534 (lv_at hl 0 rfl) ?_
  refine lv_iconst (v := 3) hx hb dL_law_536 (by decide) ?_
  refine lv_iadd hx hb dL_law_537 ?_
  refine W.eq (g2 := F0 m 538 ls [.int 3, .ref b, .int (xs 2), .int (xs 1), .ref xa]) (by first | rfl | decide) ?_
  refine va_sld hx hb hX hbl hbA hh.2.2.2.1 (by unfold vp_in; decide) dL_law_538 ?_
  refine W.eq (g2 := F0 m 539 ls [.int (xs 3), .int (xs 2), .int (xs 1), .ref xa]) rfl ?_
  refine lv_aload_n hx hb dL_law_539 rfl (lv_at hl 2 rfl) ?_
  refine k_callSX (wr := [(ma, .inr (16, [.int 0, .ref m1, .ref m2, .ref m3, .ref m4, .ref m5, .ref m6, .ref m7, .ref m8, .int 0, .int 0])), (m1, .inr (4, [.int 0, .ref e0.1, .int 0]))]) (rest := []) (own := RL) ⟨hx, hb, hml, hown, hts⟩ (c_L_cut l hst D e0 xa x1 x2 x3 x4 x5 ((xs 1)) ((xs 2)) ((xs 3)) o1 z3 ((fun _ => 0)) ) (vx_cwSW 5 hts gl_S_c_L_cut rfl rfl rfl (by decide +kernel) ⟨Nat.le_of_ble_eq_true rfl, Nat.le_of_ble_eq_true rfl⟩) hh [0, 3] [1, 2] [0] rfl rfl rfl rfl (by decide) rfl rfl hl rfl (Nat.le_of_ble_eq_true rfl) dL_law_540 ⟨Nat.le_of_ble_eq_true rfl, (Nat.le_of_ble_eq_true rfl)⟩ (fun _ _ _ _ _ h => h.elim) (fun v w ty1 H locs hp hh => ?_)
  obtain ⟨rfl, rfl, rfl⟩ := hp
  have hh : kH D kStr e0 A s H [(ma, .inr (16, [.int 0, .ref m1, .ref m2, .ref m3, .ref m4, .ref m5, .ref m6, .ref m7, .ref m8, .int 0, .int 0])), (m1, .inr (4, [.int 0, .ref e0.1, .int 0])), (o1, .inl (z3, 1, .inr (.inl (fun _ => 0))))] [(z3, .long), (z3, .long)] _ := hh
  refine W.eq (g2 := F0 m 543 ls [.int 1]) (by first | rfl | decide) ?_
  refine lv_istore (lv' := [(6, .int 1), (5, .int 0), (4, .ref o2), (3, .ref o1), (2, .ref ma), (1, .ref xa), (0, .ref b)]) hx hb dL_law_543 hl (by decide) rfl (fun ls hl => ?_)
  refine lv_aload_n hx hb dL_law_545 rfl (lv_at hl 4 rfl) ?_
  refine lv_aload_n hx hb dL_law_546 rfl (lv_at hl 6 rfl) ?_
  refine lv_iload hx hb dL_law_547 (lv_at hl 1 rfl) ?_
  refine lv_iconst (v := 1) hx hb dL_law_549 (by decide) ?_
  refine lv_iadd hx hb dL_law_550 ?_
  refine W.eq (g2 := F0 m 551 ls [.int 1, .ref b, .ref ma]) (by first | rfl | decide) ?_
  refine va_sld hx hb hX hbl hbA hh.2.2.2.1 (by unfold vp_in; decide) dL_law_551 ?_
  refine W.eq (g2 := F0 m 552 ls [.int (xs 1), .ref ma]) rfl ?_
  refine lv_aload_n hx hb dL_law_552 rfl (lv_at hl 6 rfl) ?_
  refine lv_iload hx hb dL_law_553 (lv_at hl 1 rfl) ?_
  refine lv_iconst (v := 2) hx hb dL_law_555 (by decide) ?_
  refine lv_iadd hx hb dL_law_556 ?_
  refine W.eq (g2 := F0 m 557 ls [.int 2, .ref b, .int (xs 1), .ref ma]) (by first | rfl | decide) ?_
  refine va_sld hx hb hX hbl hbA hh.2.2.2.1 (by unfold vp_in; decide) dL_law_557 ?_
  refine W.eq (g2 := F0 m 558 ls [.int (xs 2), .int (xs 1), .ref ma]) rfl ?_
  refine lv_aload_n hx hb dL_law_558 rfl (lv_at hl 6 rfl) ?_
  refine lv_iload hx hb dL_law_559 (lv_at hl 1 rfl) ?_
  refine lv_iconst (v := 3) hx hb dL_law_561 (by decide) ?_
  refine lv_iadd hx hb dL_law_562 ?_
  refine W.eq (g2 := F0 m 563 ls [.int 3, .ref b, .int (xs 2), .int (xs 1), .ref ma]) (by first | rfl | decide) ?_
  refine va_sld hx hb hX hbl hbA hh.2.2.2.1 (by unfold vp_in; decide) dL_law_563 ?_
  refine W.eq (g2 := F0 m 564 ls [.int (xs 3), .int (xs 2), .int (xs 1), .ref ma]) rfl ?_
  refine k_callV (C := RX11) (T := TX11) (N := 11) (ci := 16) (q0 := 0) (wr := [(o1, .inl (z3, 1, .inr (.inl (fun _ => 0))))]) (rest := []) (own := RL) ⟨hx, hb, hml, hown, hts⟩ (c_X11_cut l hst D e0 ma 0 m1 m2 m3 m4 m5 m6 m7 m8 ((xs 1)) ((xs 2)) ((xs 3)) ) (cwV 3 hts gl_V_c_X11_cut rfl rfl rfl (by decide +kernel) ⟨Nat.le_of_ble_eq_true rfl, Nat.le_of_ble_eq_true rfl⟩) hh rfl rfl [0, 1] [2] [] rfl rfl rfl rfl (by decide) rfl rfl hl rfl (Nat.le_of_ble_eq_true rfl) dL_law_564 ⟨Nat.le_of_ble_eq_true rfl, (Nat.le_of_ble_eq_true rfl)⟩ (fun _ _ _ _ _ h => h.elim) (fun v w ty1 H locs hp hh => ?_)
  obtain ⟨rfl, rfl, rfl⟩ := hp
  have hh : kH D kStr e0 A s H [(o1, .inl (z3, 1, .inr (.inl (fun _ => 0)))), (ma, .inr (16, [.int 1, .ref m1, .ref m2, .ref m3, .ref m4, .ref m5, .ref m6, .ref m7, .ref m8, .int 0, .int 0]))] [(z3, .long), (z3, .long)] _ := hh
  refine W.eq (g2 := F0 m 567 ls [.int 0]) (by first | rfl | decide) ?_
  refine lv_istore (lv' := [(7, .int 0), (6, .int 1), (5, .int 0), (4, .ref o2), (3, .ref o1), (2, .ref ma), (1, .ref xa), (0, .ref b)]) hx hb dL_law_567 hl (by decide) rfl (fun ls hl => ?_)
  refine lv_aload_n hx hb dL_law_569 rfl (lv_at hl 5 rfl) ?_
  refine k_callV (C := RX11) (T := TX11) (N := 11) (ci := 16) (q0 := 1) (wr := [(o1, .inl (z3, 1, .inr (.inl (fun _ => 0))))]) (rest := []) (own := RL) ⟨hx, hb, hml, hown, hts⟩ (c_X11_thrown l hst D e0 ma 1 m1 m2 m3 m4 m5 m6 m7 m8 ) (cwV 0 hts gl_V_c_X11_thrown rfl rfl rfl (by decide +kernel) ⟨Nat.le_of_ble_eq_true rfl, Nat.le_of_ble_eq_true rfl⟩) hh rfl rfl [1] [0] [] rfl rfl rfl rfl (by decide) rfl rfl hl rfl (Nat.le_of_ble_eq_true rfl) dL_law_570 ⟨Nat.le_of_ble_eq_true rfl, (Nat.le_of_ble_eq_true rfl)⟩ (fun _ _ _ _ _ h => h.elim) (fun v w ty1 H locs hp hh => ?_)
  obtain ⟨rfl, rfl, rfl⟩ := hp
  have hh : kH D kStr e0 A s H [(o1, .inl (z3, 1, .inr (.inl (fun _ => 0)))), (ma, .inr (16, [.int 1, .ref m1, .ref m2, .ref m3, .ref m4, .ref m5, .ref m6, .ref m7, .ref m8, .int 0, .int 0]))] [(z3, .long), (z3, .long)] _ := hh
  refine W.eq (g2 := F0 m 573 ls [.int 1]) (by first | rfl | decide) ?_
  refine lv_iload hx hb dL_law_573 (lv_at hl 1 rfl) ?_
  refine lv_icmp_eq (tgt := 580) hx hb dL_law_575 (by decide) (fun _ => ?_) (fun c_575 => absurd (by decide) c_575)
  refine lv_iload hx hb dL_law_580 (lv_at hl 1 rfl) ?_
  refine lv_if_ne (tgt := 597) hx hb dL_law_582 (by decide) (fun _ => ?_) (fun c_582 => absurd c_582 (by decide))
  refine lv_goto (tgt := 3429) hx hb dL_law_597 (by decide) ?_
  refine W.widen (k := 1000) (n := 100000) (Nat.le_of_ble_eq_true rfl) (Nat.le_of_ble_eq_true rfl) ?_
  exact kk _ _ _ hh.2.2.2.1 (lv_sub hl [7, 2] rfl)
set_option maxHeartbeats 4000000 in
set_option maxRecDepth 100000 in
theorem law_6 {p : Program} {l : Launch} {e : Env} {s : State} {m : MethodId} {below : List Frame} {meth : Method} {c : Code} {Q : State → Prop} {b : Nat} {xs : Nat → Int32} {D : va_G} {e0 : kE} {A : Nat → Prop} (hst : l.stackTraces = false) (hx : p.tables.exec = Jvm.exec) (hb : c.code = cL_law) (hml : c.maxLocals = 9) (hts : ∀ w ∈ lw_tbl, w.before #[Value.ref b] s = true) (hown : s.vm.findClass RL = some m.cls) (hX : va_X b 5 xs s s.heap) (hbl : b < s.heap.size) (hbA : ¬ A b) {xa x1 x2 x3 x4 x5 g1 g2 g3 g4 h1 h2 h3 h4 h5 ma m1 m2 m3 m4 m5 m6 m7 m8 o1 o2 : Nat} {z1 z2 z3 z4 : ClassId}  {H : Heap} {locs : List Loc} {ls : Array Slot} (hh : kH D kStr e0 A s H (lwW e0 xa x1 x2 x3 x4 x5 g1 g2 g3 g4 h1 h2 h3 h4 h5 ma m1 m2 m3 m4 m5 m6 m7 m8 o1 o2 z1 z2 z3 z4) (lwT z1 z2 z3 z4) locs) (hl : lv_has ls 9 (lwL b xa ma o1 o2)) (kk : lwK p l e s m below meth c Q b A) : W p l e room_1 s m #[Value.ref b] below meth c H locs 100 10000 Q (F0 m 656 ls []) := by
  have hh : kH D kStr e0 A s H [(xa, .inr (11, [.ref x1, .int 0, .ref x2, .int 0, .ref x3, .ref x4, .ref x5, .int 0])), (ma, .inr (16, [.int 0, .ref m1, .ref m2, .ref m3, .ref m4, .ref m5, .ref m6, .ref m7, .ref m8, .int 0, .int 0])), (m2, .inr (4, [.int 0, .ref e0.1, .int 0])), (o1, .inl (z3, 1, .inr (.inl (fun _ => 0))))] [(z3, .long)] _ := hh.sub [0, 5, 7, 14] [2] rfl rfl rfl
  have hl : lv_has ls 9 [(5, .int 0), (4, .ref o2), (3, .ref o1), (2, .ref ma), (1, .ref xa), (0, .ref b)] := hl
  refine lv_aload_n hx hb dL_law_656 rfl (lv_at hl 4 rfl) ?_
  refine lv_aload_n hx hb dL_law_657 rfl (lv_at hl 5 rfl) ?_
  refine lv_iload hx hb dL_law_658 (lv_at hl 0 rfl) ?_
  refine lv_iconst (v := 1) hx hb dL_law_660 (by decide) ?_
  refine lv_iadd hx hb dL_law_661 ?_
  refine W.eq (g2 := F0 m 662 ls [.int 1, .ref b, .ref xa]) (by first | rfl | decide) ?_
  refine va_sld hx hb hX hbl hbA hh.2.2.2.1 (by unfold vp_in; decide) dL_law_662 ?_
  refine W.eq (g2 := F0 m 663 ls [.int (xs 1), .ref xa]) rfl ?_
  refine lv_aload_n hx hb dL_law_663 rfl (lv_at hl 5 rfl) ?_
  refine lv_iload hx hb dL_law_664 (lv_at hl 0 rfl) ?_
  refine lv_iconst (v := 2) hx hb dL_law_666 (by decide) ?_
  refine lv_iadd hx hb dL_law_667 ?_
  refine W.eq (g2 := F0 m 668 ls [.int 2, .ref b, .int (xs 1), .ref xa]) (by first | rfl | decide) ?_
  refine va_sld hx hb hX hbl hbA hh.2.2.2.1 (by unfold vp_in; decide) dL_law_668 ?_
  refine W.eq (g2 := F0 m 669 ls [.int (xs 2), .int (xs 1), .ref xa]) rfl ?_
  refine lv_aload_n hx hb dL_law_669 rfl (lv_at hl 5 rfl) ?_
  refine lv_iload hx hb dL_law_670 (lv_at hl 0 rfl) ?_
  refine lv_iconst (v := 3) hx hb dL_law_672 (by decide) ?_
  refine lv_iadd hx hb dL_law_673 ?_
  refine W.eq (g2 := F0 m 674 ls [.int 3, .ref b, .int (xs 2), .int (xs 1), .ref xa]) (by first | rfl | decide) ?_
  refine va_sld hx hb hX hbl hbA hh.2.2.2.1 (by unfold vp_in; decide) dL_law_674 ?_
  refine W.eq (g2 := F0 m 675 ls [.int (xs 3), .int (xs 2), .int (xs 1), .ref xa]) rfl ?_
  refine lv_aload_n hx hb dL_law_675 rfl (lv_at hl 2 rfl) ?_
  refine k_callSX (wr := [(ma, .inr (16, [.int 0, .ref m1, .ref m2, .ref m3, .ref m4, .ref m5, .ref m6, .ref m7, .ref m8, .int 0, .int 0])), (m2, .inr (4, [.int 0, .ref e0.1, .int 0]))]) (rest := []) (own := RL) ⟨hx, hb, hml, hown, hts⟩ (c_L_splice l hst D e0 xa x1 x2 x3 x4 x5 ((xs 1)) ((xs 2)) ((xs 3)) o1 z3 ((fun _ => 0)) ) (vx_cwSW 5 hts gl_S_c_L_splice rfl rfl rfl (by decide +kernel) ⟨Nat.le_of_ble_eq_true rfl, Nat.le_of_ble_eq_true rfl⟩) hh [0, 3] [1, 2] [0] rfl rfl rfl rfl (by decide) rfl rfl hl rfl (Nat.le_of_ble_eq_true rfl) dL_law_676 ⟨Nat.le_of_ble_eq_true rfl, (Nat.le_of_ble_eq_true rfl)⟩ (fun _ _ _ _ _ h => h.elim) (fun v w ty1 H locs hp hh => ?_)
  obtain ⟨rfl, rfl, rfl⟩ := hp
  have hh : kH D kStr e0 A s H [(ma, .inr (16, [.int 0, .ref m1, .ref m2, .ref m3, .ref m4, .ref m5, .ref m6, .ref m7, .ref m8, .int 0, .int 0])), (m2, .inr (4, [.int 0, .ref e0.1, .int 0])), (o1, .inl (z3, 1, .inr (.inl (fun _ => 0))))] [(z3, .long), (z3, .long)] _ := hh
  refine W.eq (g2 := F0 m 679 ls [.int 1]) (by first | rfl | decide) ?_
  refine lv_istore (lv' := [(6, .int 1), (5, .int 0), (4, .ref o2), (3, .ref o1), (2, .ref ma), (1, .ref xa), (0, .ref b)]) hx hb dL_law_679 hl (by decide) rfl (fun ls hl => ?_)
  refine lv_aload_n hx hb dL_law_681 rfl (lv_at hl 4 rfl) ?_
  refine lv_aload_n hx hb dL_law_682 rfl (lv_at hl 6 rfl) ?_
  refine lv_iload hx hb dL_law_683 (lv_at hl 1 rfl) ?_
  refine lv_iconst (v := 1) hx hb dL_law_685 (by decide) ?_
  refine lv_iadd hx hb dL_law_686 ?_
  refine W.eq (g2 := F0 m 687 ls [.int 1, .ref b, .ref ma]) (by first | rfl | decide) ?_
  refine va_sld hx hb hX hbl hbA hh.2.2.2.1 (by unfold vp_in; decide) dL_law_687 ?_
  refine W.eq (g2 := F0 m 688 ls [.int (xs 1), .ref ma]) rfl ?_
  refine lv_aload_n hx hb dL_law_688 rfl (lv_at hl 6 rfl) ?_
  refine lv_iload hx hb dL_law_689 (lv_at hl 1 rfl) ?_
  refine lv_iconst (v := 2) hx hb dL_law_691 (by decide) ?_
  refine lv_iadd hx hb dL_law_692 ?_
  refine W.eq (g2 := F0 m 693 ls [.int 2, .ref b, .int (xs 1), .ref ma]) (by first | rfl | decide) ?_
  refine va_sld hx hb hX hbl hbA hh.2.2.2.1 (by unfold vp_in; decide) dL_law_693 ?_
  refine W.eq (g2 := F0 m 694 ls [.int (xs 2), .int (xs 1), .ref ma]) rfl ?_
  refine lv_aload_n hx hb dL_law_694 rfl (lv_at hl 6 rfl) ?_
  refine lv_iload hx hb dL_law_695 (lv_at hl 1 rfl) ?_
  refine lv_iconst (v := 3) hx hb dL_law_697 (by decide) ?_
  refine lv_iadd hx hb dL_law_698 ?_
  refine W.eq (g2 := F0 m 699 ls [.int 3, .ref b, .int (xs 2), .int (xs 1), .ref ma]) (by first | rfl | decide) ?_
  refine va_sld hx hb hX hbl hbA hh.2.2.2.1 (by unfold vp_in; decide) dL_law_699 ?_
  refine W.eq (g2 := F0 m 700 ls [.int (xs 3), .int (xs 2), .int (xs 1), .ref ma]) rfl ?_
  refine k_callV (C := RX11) (T := TX11) (N := 11) (ci := 16) (q0 := 0) (wr := [(o1, .inl (z3, 1, .inr (.inl (fun _ => 0))))]) (rest := []) (own := RL) ⟨hx, hb, hml, hown, hts⟩ (c_X11_splice l hst D e0 ma 0 m1 m2 m3 m4 m5 m6 m7 m8 ((xs 1)) ((xs 2)) ((xs 3)) ) (cwV 3 hts gl_V_c_X11_splice rfl rfl rfl (by decide +kernel) ⟨Nat.le_of_ble_eq_true rfl, Nat.le_of_ble_eq_true rfl⟩) hh rfl rfl [0, 1] [2] [] rfl rfl rfl rfl (by decide) rfl rfl hl rfl (Nat.le_of_ble_eq_true rfl) dL_law_700 ⟨Nat.le_of_ble_eq_true rfl, (Nat.le_of_ble_eq_true rfl)⟩ (fun _ _ _ _ _ h => h.elim) (fun v w ty1 H locs hp hh => ?_)
  obtain ⟨rfl, rfl, rfl⟩ := hp
  have hh : kH D kStr e0 A s H [(o1, .inl (z3, 1, .inr (.inl (fun _ => 0)))), (ma, .inr (16, [.int 1, .ref m1, .ref m2, .ref m3, .ref m4, .ref m5, .ref m6, .ref m7, .ref m8, .int 0, .int 0]))] [(z3, .long), (z3, .long)] _ := hh
  refine W.eq (g2 := F0 m 703 ls [.int 0]) (by first | rfl | decide) ?_
  refine lv_istore (lv' := [(7, .int 0), (6, .int 1), (5, .int 0), (4, .ref o2), (3, .ref o1), (2, .ref ma), (1, .ref xa), (0, .ref b)]) hx hb dL_law_703 hl (by decide) rfl (fun ls hl => ?_)
  refine lv_aload_n hx hb dL_law_705 rfl (lv_at hl 5 rfl) ?_
  refine k_callV (C := RX11) (T := TX11) (N := 11) (ci := 16) (q0 := 1) (wr := [(o1, .inl (z3, 1, .inr (.inl (fun _ => 0))))]) (rest := []) (own := RL) ⟨hx, hb, hml, hown, hts⟩ (c_X11_thrown l hst D e0 ma 1 m1 m2 m3 m4 m5 m6 m7 m8 ) (cwV 0 hts gl_V_c_X11_thrown rfl rfl rfl (by decide +kernel) ⟨Nat.le_of_ble_eq_true rfl, Nat.le_of_ble_eq_true rfl⟩) hh rfl rfl [1] [0] [] rfl rfl rfl rfl (by decide) rfl rfl hl rfl (Nat.le_of_ble_eq_true rfl) dL_law_706 ⟨Nat.le_of_ble_eq_true rfl, (Nat.le_of_ble_eq_true rfl)⟩ (fun _ _ _ _ _ h => h.elim) (fun v w ty1 H locs hp hh => ?_)
  obtain ⟨rfl, rfl, rfl⟩ := hp
  have hh : kH D kStr e0 A s H [(o1, .inl (z3, 1, .inr (.inl (fun _ => 0)))), (ma, .inr (16, [.int 1, .ref m1, .ref m2, .ref m3, .ref m4, .ref m5, .ref m6, .ref m7, .ref m8, .int 0, .int 0]))] [(z3, .long), (z3, .long)] _ := hh
  refine W.eq (g2 := F0 m 709 ls [.int 1]) (by first | rfl | decide) ?_
  refine lv_iload hx hb dL_law_709 (lv_at hl 1 rfl) ?_
  refine lv_icmp_eq (tgt := 716) hx hb dL_law_711 (by decide) (fun _ => ?_) (fun c_711 => absurd (by decide) c_711)
  refine lv_iload hx hb dL_law_716 (lv_at hl 1 rfl) ?_
  refine lv_if_ne (tgt := 733) hx hb dL_law_718 (by decide) (fun _ => ?_) (fun c_718 => absurd c_718 (by decide))
  refine lv_goto (tgt := 3429) hx hb dL_law_733 (by decide) ?_
  refine W.widen (k := 1000) (n := 100000) (Nat.le_of_ble_eq_true rfl) (Nat.le_of_ble_eq_true rfl) ?_
  exact kk _ _ _ hh.2.2.2.1 (lv_sub hl [7, 2] rfl)
set_option maxHeartbeats 4000000 in
set_option maxRecDepth 100000 in
theorem law_7 {p : Program} {l : Launch} {e : Env} {s : State} {m : MethodId} {below : List Frame} {meth : Method} {c : Code} {Q : State → Prop} {b : Nat} {xs : Nat → Int32} {D : va_G} {e0 : kE} {A : Nat → Prop} (hst : l.stackTraces = false) (hx : p.tables.exec = Jvm.exec) (hb : c.code = cL_law) (hml : c.maxLocals = 9) (hts : ∀ w ∈ lw_tbl, w.before #[Value.ref b] s = true) (hown : s.vm.findClass RL = some m.cls) (hX : va_X b 5 xs s s.heap) (hbl : b < s.heap.size) (hbA : ¬ A b) {xa x1 x2 x3 x4 x5 g1 g2 g3 g4 h1 h2 h3 h4 h5 ma m1 m2 m3 m4 m5 m6 m7 m8 o1 o2 : Nat} {z1 z2 z3 z4 : ClassId}  {H : Heap} {locs : List Loc} {ls : Array Slot} (hh : kH D kStr e0 A s H (lwW e0 xa x1 x2 x3 x4 x5 g1 g2 g3 g4 h1 h2 h3 h4 h5 ma m1 m2 m3 m4 m5 m6 m7 m8 o1 o2 z1 z2 z3 z4) (lwT z1 z2 z3 z4) locs) (hl : lv_has ls 9 (lwL b xa ma o1 o2)) (kk : lwK p l e s m below meth c Q b A) : W p l e room_1 s m #[Value.ref b] below meth c H locs 100 10000 Q (F0 m 736 ls []) := by
  have hh : kH D kStr e0 A s H [(xa, .inr (11, [.ref x1, .int 0, .ref x2, .int 0, .ref x3, .ref x4, .ref x5, .int 0])), (ma, .inr (16, [.int 0, .ref m1, .ref m2, .ref m3, .ref m4, .ref m5, .ref m6, .ref m7, .ref m8, .int 0, .int 0])), (m2, .inr (4, [.int 0, .ref e0.1, .int 0])), (o1, .inl (z3, 1, .inr (.inl (fun _ => 0))))] [(z3, .long)] _ := hh.sub [0, 5, 7, 14] [2] rfl rfl rfl
  have hl : lv_has ls 9 [(5, .int 0), (4, .ref o2), (3, .ref o1), (2, .ref ma), (1, .ref xa), (0, .ref b)] := hl
  refine lv_aload_n hx hb dL_law_736 rfl (lv_at hl 4 rfl) ?_
  refine lv_aload_n hx hb dL_law_737 rfl (lv_at hl 5 rfl) ?_
  refine lv_iload hx hb dL_law_738 (lv_at hl 0 rfl) ?_
  refine lv_iconst (v := 1) hx hb dL_law_740 (by decide) ?_
  refine lv_iadd hx hb dL_law_741 ?_
  refine W.eq (g2 := F0 m 742 ls [.int 1, .ref b, .ref xa]) (by first | rfl | decide) ?_
  refine va_sld hx hb hX hbl hbA hh.2.2.2.1 (by unfold vp_in; decide) dL_law_742 ?_
  refine W.eq (g2 := F0 m 743 ls [.int (xs 1), .ref xa]) rfl ?_
  refine lv_aload_n hx hb dL_law_743 rfl (lv_at hl 5 rfl) ?_
  refine lv_iload hx hb dL_law_744 (lv_at hl 0 rfl) ?_
  refine lv_iconst (v := 2) hx hb dL_law_746 (by decide) ?_
  refine lv_iadd hx hb dL_law_747 ?_
  refine W.eq (g2 := F0 m 748 ls [.int 2, .ref b, .int (xs 1), .ref xa]) (by first | rfl | decide) ?_
  refine va_sld hx hb hX hbl hbA hh.2.2.2.1 (by unfold vp_in; decide) dL_law_748 ?_
  refine W.eq (g2 := F0 m 749 ls [.int (xs 2), .int (xs 1), .ref xa]) rfl ?_
  refine lv_aload_n hx hb dL_law_749 rfl (lv_at hl 2 rfl) ?_
  refine k_callSX (wr := [(ma, .inr (16, [.int 0, .ref m1, .ref m2, .ref m3, .ref m4, .ref m5, .ref m6, .ref m7, .ref m8, .int 0, .int 0])), (m2, .inr (4, [.int 0, .ref e0.1, .int 0]))]) (rest := []) (own := RL) ⟨hx, hb, hml, hown, hts⟩ (c_L_gain l hst D e0 xa x1 x2 x3 x4 x5 ((xs 1)) ((xs 2)) o1 z3 ((fun _ => 0)) ) (vx_cwSW 4 hts gl_S_c_L_gain rfl rfl rfl (by decide +kernel) ⟨Nat.le_of_ble_eq_true rfl, Nat.le_of_ble_eq_true rfl⟩) hh [0, 3] [1, 2] [0] rfl rfl rfl rfl (by decide) rfl rfl hl rfl (Nat.le_of_ble_eq_true rfl) dL_law_750 ⟨Nat.le_of_ble_eq_true rfl, (Nat.le_of_ble_eq_true rfl)⟩ (fun _ _ _ _ _ h => h.elim) (fun v w ty1 H locs hp hh => ?_)
  obtain ⟨rfl, rfl, rfl⟩ := hp
  have hh : kH D kStr e0 A s H [(ma, .inr (16, [.int 0, .ref m1, .ref m2, .ref m3, .ref m4, .ref m5, .ref m6, .ref m7, .ref m8, .int 0, .int 0])), (m2, .inr (4, [.int 0, .ref e0.1, .int 0])), (o1, .inl (z3, 1, .inr (.inl (fun _ => 0))))] [(z3, .long), (z3, .long)] _ := hh
  refine W.eq (g2 := F0 m 753 ls [.int 1]) (by first | rfl | decide) ?_
  refine lv_istore (lv' := [(6, .int 1), (5, .int 0), (4, .ref o2), (3, .ref o1), (2, .ref ma), (1, .ref xa), (0, .ref b)]) hx hb dL_law_753 hl (by decide) rfl (fun ls hl => ?_)
  refine lv_aload_n hx hb dL_law_755 rfl (lv_at hl 4 rfl) ?_
  refine lv_aload_n hx hb dL_law_756 rfl (lv_at hl 6 rfl) ?_
  refine lv_iload hx hb dL_law_757 (lv_at hl 1 rfl) ?_
  refine lv_iconst (v := 1) hx hb dL_law_759 (by decide) ?_
  refine lv_iadd hx hb dL_law_760 ?_
  refine W.eq (g2 := F0 m 761 ls [.int 1, .ref b, .ref ma]) (by first | rfl | decide) ?_
  refine va_sld hx hb hX hbl hbA hh.2.2.2.1 (by unfold vp_in; decide) dL_law_761 ?_
  refine W.eq (g2 := F0 m 762 ls [.int (xs 1), .ref ma]) rfl ?_
  refine lv_aload_n hx hb dL_law_762 rfl (lv_at hl 6 rfl) ?_
  refine lv_iload hx hb dL_law_763 (lv_at hl 1 rfl) ?_
  refine lv_iconst (v := 2) hx hb dL_law_765 (by decide) ?_
  refine lv_iadd hx hb dL_law_766 ?_
  refine W.eq (g2 := F0 m 767 ls [.int 2, .ref b, .int (xs 1), .ref ma]) (by first | rfl | decide) ?_
  refine va_sld hx hb hX hbl hbA hh.2.2.2.1 (by unfold vp_in; decide) dL_law_767 ?_
  refine W.eq (g2 := F0 m 768 ls [.int (xs 2), .int (xs 1), .ref ma]) rfl ?_
  refine k_callV (C := RX11) (T := TX11) (N := 11) (ci := 16) (q0 := 0) (wr := [(o1, .inl (z3, 1, .inr (.inl (fun _ => 0))))]) (rest := []) (own := RL) ⟨hx, hb, hml, hown, hts⟩ (c_X11_gain l hst D e0 ma 0 m1 m2 m3 m4 m5 m6 m7 m8 ((xs 1)) ((xs 2)) ) (cwV 2 hts gl_V_c_X11_gain rfl rfl rfl (by decide +kernel) ⟨Nat.le_of_ble_eq_true rfl, Nat.le_of_ble_eq_true rfl⟩) hh rfl rfl [0, 1] [2] [] rfl rfl rfl rfl (by decide) rfl rfl hl rfl (Nat.le_of_ble_eq_true rfl) dL_law_768 ⟨Nat.le_of_ble_eq_true rfl, (Nat.le_of_ble_eq_true rfl)⟩ (fun _ _ _ _ _ h => h.elim) (fun v w ty1 H locs hp hh => ?_)
  obtain ⟨rfl, rfl, rfl⟩ := hp
  have hh : kH D kStr e0 A s H [(o1, .inl (z3, 1, .inr (.inl (fun _ => 0)))), (ma, .inr (16, [.int 1, .ref m1, .ref m2, .ref m3, .ref m4, .ref m5, .ref m6, .ref m7, .ref m8, .int 0, .int 0]))] [(z3, .long), (z3, .long)] _ := hh
  refine W.eq (g2 := F0 m 771 ls [.int 0]) (by first | rfl | decide) ?_
  refine lv_istore (lv' := [(7, .int 0), (6, .int 1), (5, .int 0), (4, .ref o2), (3, .ref o1), (2, .ref ma), (1, .ref xa), (0, .ref b)]) hx hb dL_law_771 hl (by decide) rfl (fun ls hl => ?_)
  refine lv_aload_n hx hb dL_law_773 rfl (lv_at hl 5 rfl) ?_
  refine k_callV (C := RX11) (T := TX11) (N := 11) (ci := 16) (q0 := 1) (wr := [(o1, .inl (z3, 1, .inr (.inl (fun _ => 0))))]) (rest := []) (own := RL) ⟨hx, hb, hml, hown, hts⟩ (c_X11_thrown l hst D e0 ma 1 m1 m2 m3 m4 m5 m6 m7 m8 ) (cwV 0 hts gl_V_c_X11_thrown rfl rfl rfl (by decide +kernel) ⟨Nat.le_of_ble_eq_true rfl, Nat.le_of_ble_eq_true rfl⟩) hh rfl rfl [1] [0] [] rfl rfl rfl rfl (by decide) rfl rfl hl rfl (Nat.le_of_ble_eq_true rfl) dL_law_774 ⟨Nat.le_of_ble_eq_true rfl, (Nat.le_of_ble_eq_true rfl)⟩ (fun _ _ _ _ _ h => h.elim) (fun v w ty1 H locs hp hh => ?_)
  obtain ⟨rfl, rfl, rfl⟩ := hp
  have hh : kH D kStr e0 A s H [(o1, .inl (z3, 1, .inr (.inl (fun _ => 0)))), (ma, .inr (16, [.int 1, .ref m1, .ref m2, .ref m3, .ref m4, .ref m5, .ref m6, .ref m7, .ref m8, .int 0, .int 0]))] [(z3, .long), (z3, .long)] _ := hh
  refine W.eq (g2 := F0 m 777 ls [.int 1]) (by first | rfl | decide) ?_
  refine lv_iload hx hb dL_law_777 (lv_at hl 1 rfl) ?_
  refine lv_icmp_eq (tgt := 784) hx hb dL_law_779 (by decide) (fun _ => ?_) (fun c_779 => absurd (by decide) c_779)
  refine lv_iload hx hb dL_law_784 (lv_at hl 1 rfl) ?_
  refine lv_if_ne (tgt := 801) hx hb dL_law_786 (by decide) (fun _ => ?_) (fun c_786 => absurd c_786 (by decide))
  refine lv_goto (tgt := 3429) hx hb dL_law_801 (by decide) ?_
  refine W.widen (k := 1000) (n := 100000) (Nat.le_of_ble_eq_true rfl) (Nat.le_of_ble_eq_true rfl) ?_
  exact kk _ _ _ hh.2.2.2.1 (lv_sub hl [7, 2] rfl)
set_option maxHeartbeats 4000000 in
set_option maxRecDepth 100000 in
theorem law_8 {p : Program} {l : Launch} {e : Env} {s : State} {m : MethodId} {below : List Frame} {meth : Method} {c : Code} {Q : State → Prop} {b : Nat} {xs : Nat → Int32} {D : va_G} {e0 : kE} {A : Nat → Prop} (hst : l.stackTraces = false) (hx : p.tables.exec = Jvm.exec) (hb : c.code = cL_law) (hml : c.maxLocals = 9) (hts : ∀ w ∈ lw_tbl, w.before #[Value.ref b] s = true) (hown : s.vm.findClass RL = some m.cls) (hX : va_X b 5 xs s s.heap) (hbl : b < s.heap.size) (hbA : ¬ A b) {xa x1 x2 x3 x4 x5 g1 g2 g3 g4 h1 h2 h3 h4 h5 ma m1 m2 m3 m4 m5 m6 m7 m8 o1 o2 : Nat} {z1 z2 z3 z4 : ClassId}  {H : Heap} {locs : List Loc} {ls : Array Slot} (hh : kH D kStr e0 A s H (lwW e0 xa x1 x2 x3 x4 x5 g1 g2 g3 g4 h1 h2 h3 h4 h5 ma m1 m2 m3 m4 m5 m6 m7 m8 o1 o2 z1 z2 z3 z4) (lwT z1 z2 z3 z4) locs) (hl : lv_has ls 9 (lwL b xa ma o1 o2)) (kk : lwK p l e s m below meth c Q b A) : W p l e room_1 s m #[Value.ref b] below meth c H locs 100 10000 Q (F0 m 804 ls []) := by
  have hh : kH D kStr e0 A s H [(xa, .inr (11, [.ref x1, .int 0, .ref x2, .int 0, .ref x3, .ref x4, .ref x5, .int 0])), (ma, .inr (16, [.int 0, .ref m1, .ref m2, .ref m3, .ref m4, .ref m5, .ref m6, .ref m7, .ref m8, .int 0, .int 0])), (m2, .inr (4, [.int 0, .ref e0.1, .int 0])), (o1, .inl (z3, 1, .inr (.inl (fun _ => 0))))] [(z3, .long)] _ := hh.sub [0, 5, 7, 14] [2] rfl rfl rfl
  have hl : lv_has ls 9 [(5, .int 0), (4, .ref o2), (3, .ref o1), (2, .ref ma), (1, .ref xa), (0, .ref b)] := hl
  refine lv_aload_n hx hb dL_law_804 rfl (lv_at hl 4 rfl) ?_
  refine lv_aload_n hx hb dL_law_805 rfl (lv_at hl 5 rfl) ?_
  refine lv_iload hx hb dL_law_806 (lv_at hl 0 rfl) ?_
  refine lv_iconst (v := 1) hx hb dL_law_808 (by decide) ?_
  refine lv_iadd hx hb dL_law_809 ?_
  refine W.eq (g2 := F0 m 810 ls [.int 1, .ref b, .ref xa]) (by first | rfl | decide) ?_
  refine va_sld hx hb hX hbl hbA hh.2.2.2.1 (by unfold vp_in; decide) dL_law_810 ?_
  refine W.eq (g2 := F0 m 811 ls [.int (xs 1), .ref xa]) rfl ?_
  refine lv_aload_n hx hb dL_law_811 rfl (lv_at hl 2 rfl) ?_
  refine k_callSX (wr := [(ma, .inr (16, [.int 0, .ref m1, .ref m2, .ref m3, .ref m4, .ref m5, .ref m6, .ref m7, .ref m8, .int 0, .int 0])), (m2, .inr (4, [.int 0, .ref e0.1, .int 0]))]) (rest := []) (own := RL) ⟨hx, hb, hml, hown, hts⟩ (c_L_back l hst D e0 xa x1 x2 x3 x4 x5 ((xs 1)) o1 z3 ((fun _ => 0)) ) (vx_cwSW 3 hts gl_S_c_L_back rfl rfl rfl (by decide +kernel) ⟨Nat.le_of_ble_eq_true rfl, Nat.le_of_ble_eq_true rfl⟩) hh [0, 3] [1, 2] [0] rfl rfl rfl rfl (by decide) rfl rfl hl rfl (Nat.le_of_ble_eq_true rfl) dL_law_812 ⟨Nat.le_of_ble_eq_true rfl, (Nat.le_of_ble_eq_true rfl)⟩ (fun _ _ _ _ _ h => h.elim) (fun v w ty1 H locs hp hh => ?_)
  obtain ⟨rfl, rfl, rfl⟩ := hp
  have hh : kH D kStr e0 A s H [(ma, .inr (16, [.int 0, .ref m1, .ref m2, .ref m3, .ref m4, .ref m5, .ref m6, .ref m7, .ref m8, .int 0, .int 0])), (m2, .inr (4, [.int 0, .ref e0.1, .int 0])), (o1, .inl (z3, 1, .inr (.inl (fun _ => 0))))] [(z3, .long), (z3, .long)] _ := hh
  refine W.eq (g2 := F0 m 815 ls [.int 1]) (by first | rfl | decide) ?_
  refine lv_istore (lv' := [(6, .int 1), (5, .int 0), (4, .ref o2), (3, .ref o1), (2, .ref ma), (1, .ref xa), (0, .ref b)]) hx hb dL_law_815 hl (by decide) rfl (fun ls hl => ?_)
  refine lv_aload_n hx hb dL_law_817 rfl (lv_at hl 4 rfl) ?_
  refine lv_aload_n hx hb dL_law_818 rfl (lv_at hl 6 rfl) ?_
  refine lv_iload hx hb dL_law_819 (lv_at hl 1 rfl) ?_
  refine lv_iconst (v := 1) hx hb dL_law_821 (by decide) ?_
  refine lv_iadd hx hb dL_law_822 ?_
  refine W.eq (g2 := F0 m 823 ls [.int 1, .ref b, .ref ma]) (by first | rfl | decide) ?_
  refine va_sld hx hb hX hbl hbA hh.2.2.2.1 (by unfold vp_in; decide) dL_law_823 ?_
  refine W.eq (g2 := F0 m 824 ls [.int (xs 1), .ref ma]) rfl ?_
  refine k_callV (C := RX11) (T := TX11) (N := 11) (ci := 16) (q0 := 0) (wr := [(o1, .inl (z3, 1, .inr (.inl (fun _ => 0))))]) (rest := []) (own := RL) ⟨hx, hb, hml, hown, hts⟩ (c_X11_back l hst D e0 ma 0 m1 m2 m3 m4 m5 m6 m7 m8 ((xs 1)) ) (cwV 1 hts gl_V_c_X11_back rfl rfl rfl (by decide +kernel) ⟨Nat.le_of_ble_eq_true rfl, Nat.le_of_ble_eq_true rfl⟩) hh rfl rfl [0, 1] [2] [] rfl rfl rfl rfl (by decide) rfl rfl hl rfl (Nat.le_of_ble_eq_true rfl) dL_law_824 ⟨Nat.le_of_ble_eq_true rfl, (Nat.le_of_ble_eq_true rfl)⟩ (fun _ _ _ _ _ h => h.elim) (fun v w ty1 H locs hp hh => ?_)
  obtain ⟨rfl, rfl, rfl⟩ := hp
  have hh : kH D kStr e0 A s H [(o1, .inl (z3, 1, .inr (.inl (fun _ => 0)))), (ma, .inr (16, [.int 1, .ref m1, .ref m2, .ref m3, .ref m4, .ref m5, .ref m6, .ref m7, .ref m8, .int 0, .int 0]))] [(z3, .long), (z3, .long)] _ := hh
  refine W.eq (g2 := F0 m 827 ls [.int 0]) (by first | rfl | decide) ?_
  refine lv_istore (lv' := [(7, .int 0), (6, .int 1), (5, .int 0), (4, .ref o2), (3, .ref o1), (2, .ref ma), (1, .ref xa), (0, .ref b)]) hx hb dL_law_827 hl (by decide) rfl (fun ls hl => ?_)
  refine lv_aload_n hx hb dL_law_829 rfl (lv_at hl 5 rfl) ?_
  refine k_callV (C := RX11) (T := TX11) (N := 11) (ci := 16) (q0 := 1) (wr := [(o1, .inl (z3, 1, .inr (.inl (fun _ => 0))))]) (rest := []) (own := RL) ⟨hx, hb, hml, hown, hts⟩ (c_X11_thrown l hst D e0 ma 1 m1 m2 m3 m4 m5 m6 m7 m8 ) (cwV 0 hts gl_V_c_X11_thrown rfl rfl rfl (by decide +kernel) ⟨Nat.le_of_ble_eq_true rfl, Nat.le_of_ble_eq_true rfl⟩) hh rfl rfl [1] [0] [] rfl rfl rfl rfl (by decide) rfl rfl hl rfl (Nat.le_of_ble_eq_true rfl) dL_law_830 ⟨Nat.le_of_ble_eq_true rfl, (Nat.le_of_ble_eq_true rfl)⟩ (fun _ _ _ _ _ h => h.elim) (fun v w ty1 H locs hp hh => ?_)
  obtain ⟨rfl, rfl, rfl⟩ := hp
  have hh : kH D kStr e0 A s H [(o1, .inl (z3, 1, .inr (.inl (fun _ => 0)))), (ma, .inr (16, [.int 1, .ref m1, .ref m2, .ref m3, .ref m4, .ref m5, .ref m6, .ref m7, .ref m8, .int 0, .int 0]))] [(z3, .long), (z3, .long)] _ := hh
  refine W.eq (g2 := F0 m 833 ls [.int 1]) (by first | rfl | decide) ?_
  refine lv_iload hx hb dL_law_833 (lv_at hl 1 rfl) ?_
  refine lv_icmp_eq (tgt := 840) hx hb dL_law_835 (by decide) (fun _ => ?_) (fun c_835 => absurd (by decide) c_835)
  refine lv_iload hx hb dL_law_840 (lv_at hl 1 rfl) ?_
  refine lv_if_ne (tgt := 857) hx hb dL_law_842 (by decide) (fun _ => ?_) (fun c_842 => absurd c_842 (by decide))
  refine lv_goto (tgt := 3429) hx hb dL_law_857 (by decide) ?_
  refine W.widen (k := 1000) (n := 100000) (Nat.le_of_ble_eq_true rfl) (Nat.le_of_ble_eq_true rfl) ?_
  exact kk _ _ _ hh.2.2.2.1 (lv_sub hl [7, 2] rfl)
set_option maxHeartbeats 4000000 in
set_option maxRecDepth 100000 in
theorem law_9 {p : Program} {l : Launch} {e : Env} {s : State} {m : MethodId} {below : List Frame} {meth : Method} {c : Code} {Q : State → Prop} {b : Nat} {xs : Nat → Int32} {D : va_G} {e0 : kE} {A : Nat → Prop} (hst : l.stackTraces = false) (hx : p.tables.exec = Jvm.exec) (hb : c.code = cL_law) (hml : c.maxLocals = 9) (hts : ∀ w ∈ lw_tbl, w.before #[Value.ref b] s = true) (hown : s.vm.findClass RL = some m.cls) (hX : va_X b 5 xs s s.heap) (hbl : b < s.heap.size) (hbA : ¬ A b) {xa x1 x2 x3 x4 x5 g1 g2 g3 g4 h1 h2 h3 h4 h5 ma m1 m2 m3 m4 m5 m6 m7 m8 o1 o2 : Nat} {z1 z2 z3 z4 : ClassId}  {H : Heap} {locs : List Loc} {ls : Array Slot} (hh : kH D kStr e0 A s H (lwW e0 xa x1 x2 x3 x4 x5 g1 g2 g3 g4 h1 h2 h3 h4 h5 ma m1 m2 m3 m4 m5 m6 m7 m8 o1 o2 z1 z2 z3 z4) (lwT z1 z2 z3 z4) locs) (hl : lv_has ls 9 (lwL b xa ma o1 o2)) (kk : lwK p l e s m below meth c Q b A) : W p l e room_1 s m #[Value.ref b] below meth c H locs 100 10000 Q (F0 m 860 ls []) := by
  have hh : kH D kStr e0 A s H [(xa, .inr (11, [.ref x1, .int 0, .ref x2, .int 0, .ref x3, .ref x4, .ref x5, .int 0])), (ma, .inr (16, [.int 0, .ref m1, .ref m2, .ref m3, .ref m4, .ref m5, .ref m6, .ref m7, .ref m8, .int 0, .int 0])), (m2, .inr (4, [.int 0, .ref e0.1, .int 0])), (o1, .inl (z3, 1, .inr (.inl (fun _ => 0))))] [(z3, .long)] _ := hh.sub [0, 5, 7, 14] [2] rfl rfl rfl
  have hl : lv_has ls 9 [(5, .int 0), (4, .ref o2), (3, .ref o1), (2, .ref ma), (1, .ref xa), (0, .ref b)] := hl
  refine lv_aload_n hx hb dL_law_860 rfl (lv_at hl 4 rfl) ?_
  refine lv_aload_n hx hb dL_law_861 rfl (lv_at hl 5 rfl) ?_
  refine lv_iload hx hb dL_law_862 (lv_at hl 0 rfl) ?_
  refine lv_iconst (v := 1) hx hb dL_law_864 (by decide) ?_
  refine lv_iadd hx hb dL_law_865 ?_
  refine W.eq (g2 := F0 m 866 ls [.int 1, .ref b, .ref xa]) (by first | rfl | decide) ?_
  refine va_sld hx hb hX hbl hbA hh.2.2.2.1 (by unfold vp_in; decide) dL_law_866 ?_
  refine W.eq (g2 := F0 m 867 ls [.int (xs 1), .ref xa]) rfl ?_
  refine lv_aload_n hx hb dL_law_867 rfl (lv_at hl 5 rfl) ?_
  refine lv_iload hx hb dL_law_868 (lv_at hl 0 rfl) ?_
  refine lv_iconst (v := 2) hx hb dL_law_870 (by decide) ?_
  refine lv_iadd hx hb dL_law_871 ?_
  refine W.eq (g2 := F0 m 872 ls [.int 2, .ref b, .int (xs 1), .ref xa]) (by first | rfl | decide) ?_
  refine va_sld hx hb hX hbl hbA hh.2.2.2.1 (by unfold vp_in; decide) dL_law_872 ?_
  refine W.eq (g2 := F0 m 873 ls [.int (xs 2), .int (xs 1), .ref xa]) rfl ?_
  refine lv_aload_n hx hb dL_law_873 rfl (lv_at hl 5 rfl) ?_
  refine lv_iload hx hb dL_law_874 (lv_at hl 0 rfl) ?_
  refine lv_iconst (v := 3) hx hb dL_law_876 (by decide) ?_
  refine lv_iadd hx hb dL_law_877 ?_
  refine W.eq (g2 := F0 m 878 ls [.int 3, .ref b, .int (xs 2), .int (xs 1), .ref xa]) (by first | rfl | decide) ?_
  refine va_sld hx hb hX hbl hbA hh.2.2.2.1 (by unfold vp_in; decide) dL_law_878 ?_
  refine W.eq (g2 := F0 m 879 ls [.int (xs 3), .int (xs 2), .int (xs 1), .ref xa]) rfl ?_
  refine lv_aload_n hx hb dL_law_879 rfl (lv_at hl 5 rfl) ?_
  refine lv_iload hx hb dL_law_880 (lv_at hl 0 rfl) ?_
  refine lv_iconst (v := 4) hx hb dL_law_882 (by decide) ?_
  refine lv_iadd hx hb dL_law_883 ?_
  refine W.eq (g2 := F0 m 884 ls [.int 4, .ref b, .int (xs 3), .int (xs 2), .int (xs 1), .ref xa]) (by first | rfl | decide) ?_
  refine va_sld hx hb hX hbl hbA hh.2.2.2.1 (by unfold vp_in; decide) dL_law_884 ?_
  refine W.eq (g2 := F0 m 885 ls [.int (xs 4), .int (xs 3), .int (xs 2), .int (xs 1), .ref xa]) rfl ?_
  refine lv_aload_n hx hb dL_law_885 rfl (lv_at hl 2 rfl) ?_
  refine k_callSX (wr := [(ma, .inr (16, [.int 0, .ref m1, .ref m2, .ref m3, .ref m4, .ref m5, .ref m6, .ref m7, .ref m8, .int 0, .int 0])), (m2, .inr (4, [.int 0, .ref e0.1, .int 0]))]) (rest := []) (own := RL) ⟨hx, hb, hml, hown, hts⟩ (c_L_limit l hst D e0 xa x1 x2 x3 x4 x5 ((xs 1)) ((xs 2)) ((xs 3)) ((xs 4)) o1 z3 ((fun _ => 0)) ) (vx_cwSW 6 hts gl_S_c_L_limit rfl rfl rfl (by decide +kernel) ⟨Nat.le_of_ble_eq_true rfl, Nat.le_of_ble_eq_true rfl⟩) hh [0, 3] [1, 2] [0] rfl rfl rfl rfl (by decide) rfl rfl hl rfl (Nat.le_of_ble_eq_true rfl) dL_law_886 ⟨Nat.le_of_ble_eq_true rfl, (Nat.le_of_ble_eq_true rfl)⟩ (fun _ _ _ _ _ h => h.elim) (fun v w ty1 H locs hp hh => ?_)
  obtain ⟨rfl, rfl, rfl⟩ := hp
  have hh : kH D kStr e0 A s H [(ma, .inr (16, [.int 0, .ref m1, .ref m2, .ref m3, .ref m4, .ref m5, .ref m6, .ref m7, .ref m8, .int 0, .int 0])), (m2, .inr (4, [.int 0, .ref e0.1, .int 0])), (o1, .inl (z3, 1, .inr (.inl (fun _ => 0))))] [(z3, .long), (z3, .long)] _ := hh
  refine W.eq (g2 := F0 m 889 ls [.int 1]) (by first | rfl | decide) ?_
  refine lv_istore (lv' := [(6, .int 1), (5, .int 0), (4, .ref o2), (3, .ref o1), (2, .ref ma), (1, .ref xa), (0, .ref b)]) hx hb dL_law_889 hl (by decide) rfl (fun ls hl => ?_)
  refine lv_aload_n hx hb dL_law_891 rfl (lv_at hl 4 rfl) ?_
  refine lv_aload_n hx hb dL_law_892 rfl (lv_at hl 6 rfl) ?_
  refine lv_iload hx hb dL_law_893 (lv_at hl 1 rfl) ?_
  refine lv_iconst (v := 1) hx hb dL_law_895 (by decide) ?_
  refine lv_iadd hx hb dL_law_896 ?_
  refine W.eq (g2 := F0 m 897 ls [.int 1, .ref b, .ref ma]) (by first | rfl | decide) ?_
  refine va_sld hx hb hX hbl hbA hh.2.2.2.1 (by unfold vp_in; decide) dL_law_897 ?_
  refine W.eq (g2 := F0 m 898 ls [.int (xs 1), .ref ma]) rfl ?_
  refine lv_aload_n hx hb dL_law_898 rfl (lv_at hl 6 rfl) ?_
  refine lv_iload hx hb dL_law_899 (lv_at hl 1 rfl) ?_
  refine lv_iconst (v := 2) hx hb dL_law_901 (by decide) ?_
  refine lv_iadd hx hb dL_law_902 ?_
  refine W.eq (g2 := F0 m 903 ls [.int 2, .ref b, .int (xs 1), .ref ma]) (by first | rfl | decide) ?_
  refine va_sld hx hb hX hbl hbA hh.2.2.2.1 (by unfold vp_in; decide) dL_law_903 ?_
  refine W.eq (g2 := F0 m 904 ls [.int (xs 2), .int (xs 1), .ref ma]) rfl ?_
  refine lv_aload_n hx hb dL_law_904 rfl (lv_at hl 6 rfl) ?_
  refine lv_iload hx hb dL_law_905 (lv_at hl 1 rfl) ?_
  refine lv_iconst (v := 3) hx hb dL_law_907 (by decide) ?_
  refine lv_iadd hx hb dL_law_908 ?_
  refine W.eq (g2 := F0 m 909 ls [.int 3, .ref b, .int (xs 2), .int (xs 1), .ref ma]) (by first | rfl | decide) ?_
  refine va_sld hx hb hX hbl hbA hh.2.2.2.1 (by unfold vp_in; decide) dL_law_909 ?_
  refine W.eq (g2 := F0 m 910 ls [.int (xs 3), .int (xs 2), .int (xs 1), .ref ma]) rfl ?_
  refine lv_aload_n hx hb dL_law_910 rfl (lv_at hl 6 rfl) ?_
  refine lv_iload hx hb dL_law_911 (lv_at hl 1 rfl) ?_
  refine lv_iconst (v := 4) hx hb dL_law_913 (by decide) ?_
  refine lv_iadd hx hb dL_law_914 ?_
  refine W.eq (g2 := F0 m 915 ls [.int 4, .ref b, .int (xs 3), .int (xs 2), .int (xs 1), .ref ma]) (by first | rfl | decide) ?_
  refine va_sld hx hb hX hbl hbA hh.2.2.2.1 (by unfold vp_in; decide) dL_law_915 ?_
  refine W.eq (g2 := F0 m 916 ls [.int (xs 4), .int (xs 3), .int (xs 2), .int (xs 1), .ref ma]) rfl ?_
  refine k_callV (C := RX11) (T := TX11) (N := 11) (ci := 16) (q0 := 0) (wr := [(o1, .inl (z3, 1, .inr (.inl (fun _ => 0))))]) (rest := []) (own := RL) ⟨hx, hb, hml, hown, hts⟩ (c_X11_limit l hst D e0 ma 0 m1 m2 m3 m4 m5 m6 m7 m8 ((xs 1)) ((xs 2)) ((xs 3)) ((xs 4)) ) (cwV 4 hts gl_V_c_X11_limit rfl rfl rfl (by decide +kernel) ⟨Nat.le_of_ble_eq_true rfl, Nat.le_of_ble_eq_true rfl⟩) hh rfl rfl [0, 1] [2] [] rfl rfl rfl rfl (by decide) rfl rfl hl rfl (Nat.le_of_ble_eq_true rfl) dL_law_916 ⟨Nat.le_of_ble_eq_true rfl, (Nat.le_of_ble_eq_true rfl)⟩ (fun _ _ _ _ _ h => h.elim) (fun v w ty1 H locs hp hh => ?_)
  obtain ⟨rfl, rfl, rfl⟩ := hp
  have hh : kH D kStr e0 A s H [(o1, .inl (z3, 1, .inr (.inl (fun _ => 0)))), (ma, .inr (16, [.int 1, .ref m1, .ref m2, .ref m3, .ref m4, .ref m5, .ref m6, .ref m7, .ref m8, .int 0, .int 0]))] [(z3, .long), (z3, .long)] _ := hh
  refine W.eq (g2 := F0 m 919 ls [.int 0]) (by first | rfl | decide) ?_
  refine lv_istore (lv' := [(7, .int 0), (6, .int 1), (5, .int 0), (4, .ref o2), (3, .ref o1), (2, .ref ma), (1, .ref xa), (0, .ref b)]) hx hb dL_law_919 hl (by decide) rfl (fun ls hl => ?_)
  refine lv_aload_n hx hb dL_law_921 rfl (lv_at hl 5 rfl) ?_
  refine k_callV (C := RX11) (T := TX11) (N := 11) (ci := 16) (q0 := 1) (wr := [(o1, .inl (z3, 1, .inr (.inl (fun _ => 0))))]) (rest := []) (own := RL) ⟨hx, hb, hml, hown, hts⟩ (c_X11_thrown l hst D e0 ma 1 m1 m2 m3 m4 m5 m6 m7 m8 ) (cwV 0 hts gl_V_c_X11_thrown rfl rfl rfl (by decide +kernel) ⟨Nat.le_of_ble_eq_true rfl, Nat.le_of_ble_eq_true rfl⟩) hh rfl rfl [1] [0] [] rfl rfl rfl rfl (by decide) rfl rfl hl rfl (Nat.le_of_ble_eq_true rfl) dL_law_922 ⟨Nat.le_of_ble_eq_true rfl, (Nat.le_of_ble_eq_true rfl)⟩ (fun _ _ _ _ _ h => h.elim) (fun v w ty1 H locs hp hh => ?_)
  obtain ⟨rfl, rfl, rfl⟩ := hp
  have hh : kH D kStr e0 A s H [(o1, .inl (z3, 1, .inr (.inl (fun _ => 0)))), (ma, .inr (16, [.int 1, .ref m1, .ref m2, .ref m3, .ref m4, .ref m5, .ref m6, .ref m7, .ref m8, .int 0, .int 0]))] [(z3, .long), (z3, .long)] _ := hh
  refine W.eq (g2 := F0 m 925 ls [.int 1]) (by first | rfl | decide) ?_
  refine lv_iload hx hb dL_law_925 (lv_at hl 1 rfl) ?_
  refine lv_icmp_eq (tgt := 932) hx hb dL_law_927 (by decide) (fun _ => ?_) (fun c_927 => absurd (by decide) c_927)
  refine lv_iload hx hb dL_law_932 (lv_at hl 1 rfl) ?_
  refine lv_if_ne (tgt := 949) hx hb dL_law_934 (by decide) (fun _ => ?_) (fun c_934 => absurd c_934 (by decide))
  refine lv_goto (tgt := 3429) hx hb dL_law_949 (by decide) ?_
  refine W.widen (k := 1000) (n := 100000) (Nat.le_of_ble_eq_true rfl) (Nat.le_of_ble_eq_true rfl) ?_
  exact kk _ _ _ hh.2.2.2.1 (lv_sub hl [7, 2] rfl)
set_option maxHeartbeats 4000000 in
set_option maxRecDepth 100000 in
theorem law_10 {p : Program} {l : Launch} {e : Env} {s : State} {m : MethodId} {below : List Frame} {meth : Method} {c : Code} {Q : State → Prop} {b : Nat} {xs : Nat → Int32} {D : va_G} {e0 : kE} {A : Nat → Prop} (hst : l.stackTraces = false) (hx : p.tables.exec = Jvm.exec) (hb : c.code = cL_law) (hml : c.maxLocals = 9) (hts : ∀ w ∈ lw_tbl, w.before #[Value.ref b] s = true) (hown : s.vm.findClass RL = some m.cls) (hX : va_X b 5 xs s s.heap) (hbl : b < s.heap.size) (hbA : ¬ A b) {xa x1 x2 x3 x4 x5 g1 g2 g3 g4 h1 h2 h3 h4 h5 ma m1 m2 m3 m4 m5 m6 m7 m8 o1 o2 : Nat} {z1 z2 z3 z4 : ClassId}  {H : Heap} {locs : List Loc} {ls : Array Slot} (hh : kH D kStr e0 A s H (lwW e0 xa x1 x2 x3 x4 x5 g1 g2 g3 g4 h1 h2 h3 h4 h5 ma m1 m2 m3 m4 m5 m6 m7 m8 o1 o2 z1 z2 z3 z4) (lwT z1 z2 z3 z4) locs) (hl : lv_has ls 9 (lwL b xa ma o1 o2)) (kk : lwK p l e s m below meth c Q b A) : W p l e room_1 s m #[Value.ref b] below meth c H locs 100 10000 Q (F0 m 952 ls []) := by
  have hh : kH D kStr e0 A s H [(xa, .inr (11, [.ref x1, .int 0, .ref x2, .int 0, .ref x3, .ref x4, .ref x5, .int 0])), (ma, .inr (16, [.int 0, .ref m1, .ref m2, .ref m3, .ref m4, .ref m5, .ref m6, .ref m7, .ref m8, .int 0, .int 0])), (m2, .inr (4, [.int 0, .ref e0.1, .int 0])), (o1, .inl (z3, 1, .inr (.inl (fun _ => 0))))] [(z3, .long)] _ := hh.sub [0, 5, 7, 14] [2] rfl rfl rfl
  have hl : lv_has ls 9 [(5, .int 0), (4, .ref o2), (3, .ref o1), (2, .ref ma), (1, .ref xa), (0, .ref b)] := hl
  refine lv_aload_n hx hb dL_law_952 rfl (lv_at hl 4 rfl) ?_
  refine lv_aload_n hx hb dL_law_953 rfl (lv_at hl 5 rfl) ?_
  refine lv_iload hx hb dL_law_954 (lv_at hl 0 rfl) ?_
  refine lv_iconst (v := 1) hx hb dL_law_956 (by decide) ?_
  refine lv_iadd hx hb dL_law_957 ?_
  refine W.eq (g2 := F0 m 958 ls [.int 1, .ref b, .ref xa]) (by first | rfl | decide) ?_
  refine va_sld hx hb hX hbl hbA hh.2.2.2.1 (by unfold vp_in; decide) dL_law_958 ?_
  refine W.eq (g2 := F0 m 959 ls [.int (xs 1), .ref xa]) rfl ?_
  refine lv_aload_n hx hb dL_law_959 rfl (lv_at hl 5 rfl) ?_
  refine lv_iload hx hb dL_law_960 (lv_at hl 0 rfl) ?_
  refine lv_iconst (v := 2) hx hb dL_law_962 (by decide) ?_
  refine lv_iadd hx hb dL_law_963 ?_
  refine W.eq (g2 := F0 m 964 ls [.int 2, .ref b, .int (xs 1), .ref xa]) (by first | rfl | decide) ?_
  refine va_sld hx hb hX hbl hbA hh.2.2.2.1 (by unfold vp_in; decide) dL_law_964 ?_
  refine W.eq (g2 := F0 m 965 ls [.int (xs 2), .int (xs 1), .ref xa]) rfl ?_
  refine lv_aload_n hx hb dL_law_965 rfl (lv_at hl 5 rfl) ?_
  refine lv_iload hx hb dL_law_966 (lv_at hl 0 rfl) ?_
  refine lv_iconst (v := 3) hx hb dL_law_968 (by decide) ?_
  refine lv_iadd hx hb dL_law_969 ?_
  refine W.eq (g2 := F0 m 970 ls [.int 3, .ref b, .int (xs 2), .int (xs 1), .ref xa]) (by first | rfl | decide) ?_
  refine va_sld hx hb hX hbl hbA hh.2.2.2.1 (by unfold vp_in; decide) dL_law_970 ?_
  refine W.eq (g2 := F0 m 971 ls [.int (xs 3), .int (xs 2), .int (xs 1), .ref xa]) rfl ?_
  refine lv_aload_n hx hb dL_law_971 rfl (lv_at hl 2 rfl) ?_
  refine k_callSX (wr := [(ma, .inr (16, [.int 0, .ref m1, .ref m2, .ref m3, .ref m4, .ref m5, .ref m6, .ref m7, .ref m8, .int 0, .int 0])), (m2, .inr (4, [.int 0, .ref e0.1, .int 0]))]) (rest := []) (own := RL) ⟨hx, hb, hml, hown, hts⟩ (c_L_resample l hst D e0 xa x1 x2 x3 x4 x5 ((xs 1)) ((xs 2)) ((xs 3)) o1 z3 ((fun _ => 0)) ) (vx_cwSW 5 hts gl_S_c_L_resample rfl rfl rfl (by decide +kernel) ⟨Nat.le_of_ble_eq_true rfl, Nat.le_of_ble_eq_true rfl⟩) hh [0, 3] [1, 2] [0] rfl rfl rfl rfl (by decide) rfl rfl hl rfl (Nat.le_of_ble_eq_true rfl) dL_law_972 ⟨Nat.le_of_ble_eq_true rfl, (Nat.le_of_ble_eq_true rfl)⟩ (fun _ _ _ _ _ h => h.elim) (fun v w ty1 H locs hp hh => ?_)
  obtain ⟨rfl, rfl, rfl⟩ := hp
  have hh : kH D kStr e0 A s H [(ma, .inr (16, [.int 0, .ref m1, .ref m2, .ref m3, .ref m4, .ref m5, .ref m6, .ref m7, .ref m8, .int 0, .int 0])), (m2, .inr (4, [.int 0, .ref e0.1, .int 0])), (o1, .inl (z3, 1, .inr (.inl (fun _ => 0))))] [(z3, .long), (z3, .long)] _ := hh
  refine W.eq (g2 := F0 m 975 ls [.int 1]) (by first | rfl | decide) ?_
  refine lv_istore (lv' := [(6, .int 1), (5, .int 0), (4, .ref o2), (3, .ref o1), (2, .ref ma), (1, .ref xa), (0, .ref b)]) hx hb dL_law_975 hl (by decide) rfl (fun ls hl => ?_)
  refine lv_aload_n hx hb dL_law_977 rfl (lv_at hl 4 rfl) ?_
  refine lv_aload_n hx hb dL_law_978 rfl (lv_at hl 6 rfl) ?_
  refine lv_iload hx hb dL_law_979 (lv_at hl 1 rfl) ?_
  refine lv_iconst (v := 1) hx hb dL_law_981 (by decide) ?_
  refine lv_iadd hx hb dL_law_982 ?_
  refine W.eq (g2 := F0 m 983 ls [.int 1, .ref b, .ref ma]) (by first | rfl | decide) ?_
  refine va_sld hx hb hX hbl hbA hh.2.2.2.1 (by unfold vp_in; decide) dL_law_983 ?_
  refine W.eq (g2 := F0 m 984 ls [.int (xs 1), .ref ma]) rfl ?_
  refine lv_aload_n hx hb dL_law_984 rfl (lv_at hl 6 rfl) ?_
  refine lv_iload hx hb dL_law_985 (lv_at hl 1 rfl) ?_
  refine lv_iconst (v := 2) hx hb dL_law_987 (by decide) ?_
  refine lv_iadd hx hb dL_law_988 ?_
  refine W.eq (g2 := F0 m 989 ls [.int 2, .ref b, .int (xs 1), .ref ma]) (by first | rfl | decide) ?_
  refine va_sld hx hb hX hbl hbA hh.2.2.2.1 (by unfold vp_in; decide) dL_law_989 ?_
  refine W.eq (g2 := F0 m 990 ls [.int (xs 2), .int (xs 1), .ref ma]) rfl ?_
  refine lv_aload_n hx hb dL_law_990 rfl (lv_at hl 6 rfl) ?_
  refine lv_iload hx hb dL_law_991 (lv_at hl 1 rfl) ?_
  refine lv_iconst (v := 3) hx hb dL_law_993 (by decide) ?_
  refine lv_iadd hx hb dL_law_994 ?_
  refine W.eq (g2 := F0 m 995 ls [.int 3, .ref b, .int (xs 2), .int (xs 1), .ref ma]) (by first | rfl | decide) ?_
  refine va_sld hx hb hX hbl hbA hh.2.2.2.1 (by unfold vp_in; decide) dL_law_995 ?_
  refine W.eq (g2 := F0 m 996 ls [.int (xs 3), .int (xs 2), .int (xs 1), .ref ma]) rfl ?_
  refine k_callV (C := RX11) (T := TX11) (N := 11) (ci := 16) (q0 := 0) (wr := [(o1, .inl (z3, 1, .inr (.inl (fun _ => 0))))]) (rest := []) (own := RL) ⟨hx, hb, hml, hown, hts⟩ (c_X11_resample l hst D e0 ma 0 m1 m2 m3 m4 m5 m6 m7 m8 ((xs 1)) ((xs 2)) ((xs 3)) ) (cwV 3 hts gl_V_c_X11_resample rfl rfl rfl (by decide +kernel) ⟨Nat.le_of_ble_eq_true rfl, Nat.le_of_ble_eq_true rfl⟩) hh rfl rfl [0, 1] [2] [] rfl rfl rfl rfl (by decide) rfl rfl hl rfl (Nat.le_of_ble_eq_true rfl) dL_law_996 ⟨Nat.le_of_ble_eq_true rfl, (Nat.le_of_ble_eq_true rfl)⟩ (fun _ _ _ _ _ h => h.elim) (fun v w ty1 H locs hp hh => ?_)
  obtain ⟨rfl, rfl, rfl⟩ := hp
  have hh : kH D kStr e0 A s H [(o1, .inl (z3, 1, .inr (.inl (fun _ => 0)))), (ma, .inr (16, [.int 1, .ref m1, .ref m2, .ref m3, .ref m4, .ref m5, .ref m6, .ref m7, .ref m8, .int 0, .int 0]))] [(z3, .long), (z3, .long)] _ := hh
  refine W.eq (g2 := F0 m 999 ls [.int 0]) (by first | rfl | decide) ?_
  refine lv_istore (lv' := [(7, .int 0), (6, .int 1), (5, .int 0), (4, .ref o2), (3, .ref o1), (2, .ref ma), (1, .ref xa), (0, .ref b)]) hx hb dL_law_999 hl (by decide) rfl (fun ls hl => ?_)
  refine lv_aload_n hx hb dL_law_1001 rfl (lv_at hl 5 rfl) ?_
  refine k_callV (C := RX11) (T := TX11) (N := 11) (ci := 16) (q0 := 1) (wr := [(o1, .inl (z3, 1, .inr (.inl (fun _ => 0))))]) (rest := []) (own := RL) ⟨hx, hb, hml, hown, hts⟩ (c_X11_thrown l hst D e0 ma 1 m1 m2 m3 m4 m5 m6 m7 m8 ) (cwV 0 hts gl_V_c_X11_thrown rfl rfl rfl (by decide +kernel) ⟨Nat.le_of_ble_eq_true rfl, Nat.le_of_ble_eq_true rfl⟩) hh rfl rfl [1] [0] [] rfl rfl rfl rfl (by decide) rfl rfl hl rfl (Nat.le_of_ble_eq_true rfl) dL_law_1002 ⟨Nat.le_of_ble_eq_true rfl, (Nat.le_of_ble_eq_true rfl)⟩ (fun _ _ _ _ _ h => h.elim) (fun v w ty1 H locs hp hh => ?_)
  obtain ⟨rfl, rfl, rfl⟩ := hp
  have hh : kH D kStr e0 A s H [(o1, .inl (z3, 1, .inr (.inl (fun _ => 0)))), (ma, .inr (16, [.int 1, .ref m1, .ref m2, .ref m3, .ref m4, .ref m5, .ref m6, .ref m7, .ref m8, .int 0, .int 0]))] [(z3, .long), (z3, .long)] _ := hh
  refine W.eq (g2 := F0 m 1005 ls [.int 1]) (by first | rfl | decide) ?_
  refine lv_iload hx hb dL_law_1005 (lv_at hl 1 rfl) ?_
  refine lv_icmp_eq (tgt := 1012) hx hb dL_law_1007 (by decide) (fun _ => ?_) (fun c_1007 => absurd (by decide) c_1007)
  refine lv_iload hx hb dL_law_1012 (lv_at hl 1 rfl) ?_
  refine lv_if_ne (tgt := 1029) hx hb dL_law_1014 (by decide) (fun _ => ?_) (fun c_1014 => absurd c_1014 (by decide))
  refine lv_goto (tgt := 3429) hx hb dL_law_1029 (by decide) ?_
  refine W.widen (k := 1000) (n := 100000) (Nat.le_of_ble_eq_true rfl) (Nat.le_of_ble_eq_true rfl) ?_
  exact kk _ _ _ hh.2.2.2.1 (lv_sub hl [7, 2] rfl)
set_option maxHeartbeats 4000000 in
set_option maxRecDepth 100000 in
theorem law_11 {p : Program} {l : Launch} {e : Env} {s : State} {m : MethodId} {below : List Frame} {meth : Method} {c : Code} {Q : State → Prop} {b : Nat} {xs : Nat → Int32} {D : va_G} {e0 : kE} {A : Nat → Prop} (hst : l.stackTraces = false) (hx : p.tables.exec = Jvm.exec) (hb : c.code = cL_law) (hml : c.maxLocals = 9) (hts : ∀ w ∈ lw_tbl, w.before #[Value.ref b] s = true) (hown : s.vm.findClass RL = some m.cls) (hX : va_X b 5 xs s s.heap) (hbl : b < s.heap.size) (hbA : ¬ A b) {xa x1 x2 x3 x4 x5 g1 g2 g3 g4 h1 h2 h3 h4 h5 ma m1 m2 m3 m4 m5 m6 m7 m8 o1 o2 : Nat} {z1 z2 z3 z4 : ClassId}  {H : Heap} {locs : List Loc} {ls : Array Slot} (hh : kH D kStr e0 A s H (lwW e0 xa x1 x2 x3 x4 x5 g1 g2 g3 g4 h1 h2 h3 h4 h5 ma m1 m2 m3 m4 m5 m6 m7 m8 o1 o2 z1 z2 z3 z4) (lwT z1 z2 z3 z4) locs) (hl : lv_has ls 9 (lwL b xa ma o1 o2)) (kk : lwK p l e s m below meth c Q b A) : W p l e room_1 s m #[Value.ref b] below meth c H locs 100 10000 Q (F0 m 1032 ls []) := by
  have hh : kH D kStr e0 A s H [(xa, .inr (11, [.ref x1, .int 0, .ref x2, .int 0, .ref x3, .ref x4, .ref x5, .int 0])), (ma, .inr (16, [.int 0, .ref m1, .ref m2, .ref m3, .ref m4, .ref m5, .ref m6, .ref m7, .ref m8, .int 0, .int 0])), (m2, .inr (4, [.int 0, .ref e0.1, .int 0])), (o1, .inl (z3, 1, .inr (.inl (fun _ => 0))))] [(z3, .long)] _ := hh.sub [0, 5, 7, 14] [2] rfl rfl rfl
  have hl : lv_has ls 9 [(5, .int 0), (4, .ref o2), (3, .ref o1), (2, .ref ma), (1, .ref xa), (0, .ref b)] := hl
  refine lv_aload_n hx hb dL_law_1032 rfl (lv_at hl 4 rfl) ?_
  refine lv_aload_n hx hb dL_law_1033 rfl (lv_at hl 5 rfl) ?_
  refine lv_iload hx hb dL_law_1034 (lv_at hl 0 rfl) ?_
  refine lv_iconst (v := 1) hx hb dL_law_1036 (by decide) ?_
  refine lv_iadd hx hb dL_law_1037 ?_
  refine W.eq (g2 := F0 m 1038 ls [.int 1, .ref b, .ref xa]) (by first | rfl | decide) ?_
  refine va_sld hx hb hX hbl hbA hh.2.2.2.1 (by unfold vp_in; decide) dL_law_1038 ?_
  refine W.eq (g2 := F0 m 1039 ls [.int (xs 1), .ref xa]) rfl ?_
  refine lv_aload_n hx hb dL_law_1039 rfl (lv_at hl 5 rfl) ?_
  refine lv_iload hx hb dL_law_1040 (lv_at hl 0 rfl) ?_
  refine lv_iconst (v := 2) hx hb dL_law_1042 (by decide) ?_
  refine lv_iadd hx hb dL_law_1043 ?_
  refine W.eq (g2 := F0 m 1044 ls [.int 2, .ref b, .int (xs 1), .ref xa]) (by first | rfl | decide) ?_
  refine va_sld hx hb hX hbl hbA hh.2.2.2.1 (by unfold vp_in; decide) dL_law_1044 ?_
  refine W.eq (g2 := F0 m 1045 ls [.int (xs 2), .int (xs 1), .ref xa]) rfl ?_
  refine lv_aload_n hx hb dL_law_1045 rfl (lv_at hl 2 rfl) ?_
  refine k_callSX (wr := [(ma, .inr (16, [.int 0, .ref m1, .ref m2, .ref m3, .ref m4, .ref m5, .ref m6, .ref m7, .ref m8, .int 0, .int 0])), (m2, .inr (4, [.int 0, .ref e0.1, .int 0]))]) (rest := []) (own := RL) ⟨hx, hb, hml, hown, hts⟩ (c_L_dither l hst D e0 xa x1 x2 x3 x4 x5 ((xs 1)) ((xs 2)) o1 z3 ((fun _ => 0)) ) (vx_cwSW 4 hts gl_S_c_L_dither rfl rfl rfl (by decide +kernel) ⟨Nat.le_of_ble_eq_true rfl, Nat.le_of_ble_eq_true rfl⟩) hh [0, 3] [1, 2] [0] rfl rfl rfl rfl (by decide) rfl rfl hl rfl (Nat.le_of_ble_eq_true rfl) dL_law_1046 ⟨Nat.le_of_ble_eq_true rfl, (Nat.le_of_ble_eq_true rfl)⟩ (fun _ _ _ _ _ h => h.elim) (fun v w ty1 H locs hp hh => ?_)
  obtain ⟨rfl, rfl, rfl⟩ := hp
  have hh : kH D kStr e0 A s H [(ma, .inr (16, [.int 0, .ref m1, .ref m2, .ref m3, .ref m4, .ref m5, .ref m6, .ref m7, .ref m8, .int 0, .int 0])), (m2, .inr (4, [.int 0, .ref e0.1, .int 0])), (o1, .inl (z3, 1, .inr (.inl (fun _ => 0))))] [(z3, .long), (z3, .long)] _ := hh
  refine W.eq (g2 := F0 m 1049 ls [.int 1]) (by first | rfl | decide) ?_
  refine lv_istore (lv' := [(6, .int 1), (5, .int 0), (4, .ref o2), (3, .ref o1), (2, .ref ma), (1, .ref xa), (0, .ref b)]) hx hb dL_law_1049 hl (by decide) rfl (fun ls hl => ?_)
  refine lv_aload_n hx hb dL_law_1051 rfl (lv_at hl 4 rfl) ?_
  refine lv_aload_n hx hb dL_law_1052 rfl (lv_at hl 6 rfl) ?_
  refine lv_iload hx hb dL_law_1053 (lv_at hl 1 rfl) ?_
  refine lv_iconst (v := 1) hx hb dL_law_1055 (by decide) ?_
  refine lv_iadd hx hb dL_law_1056 ?_
  refine W.eq (g2 := F0 m 1057 ls [.int 1, .ref b, .ref ma]) (by first | rfl | decide) ?_
  refine va_sld hx hb hX hbl hbA hh.2.2.2.1 (by unfold vp_in; decide) dL_law_1057 ?_
  refine W.eq (g2 := F0 m 1058 ls [.int (xs 1), .ref ma]) rfl ?_
  refine lv_aload_n hx hb dL_law_1058 rfl (lv_at hl 6 rfl) ?_
  refine lv_iload hx hb dL_law_1059 (lv_at hl 1 rfl) ?_
  refine lv_iconst (v := 2) hx hb dL_law_1061 (by decide) ?_
  refine lv_iadd hx hb dL_law_1062 ?_
  refine W.eq (g2 := F0 m 1063 ls [.int 2, .ref b, .int (xs 1), .ref ma]) (by first | rfl | decide) ?_
  refine va_sld hx hb hX hbl hbA hh.2.2.2.1 (by unfold vp_in; decide) dL_law_1063 ?_
  refine W.eq (g2 := F0 m 1064 ls [.int (xs 2), .int (xs 1), .ref ma]) rfl ?_
  refine k_callV (C := RX11) (T := TX11) (N := 11) (ci := 16) (q0 := 0) (wr := [(o1, .inl (z3, 1, .inr (.inl (fun _ => 0))))]) (rest := []) (own := RL) ⟨hx, hb, hml, hown, hts⟩ (c_X11_dither l hst D e0 ma 0 m1 m2 m3 m4 m5 m6 m7 m8 ((xs 1)) ((xs 2)) ) (cwV 2 hts gl_V_c_X11_dither rfl rfl rfl (by decide +kernel) ⟨Nat.le_of_ble_eq_true rfl, Nat.le_of_ble_eq_true rfl⟩) hh rfl rfl [0, 1] [2] [] rfl rfl rfl rfl (by decide) rfl rfl hl rfl (Nat.le_of_ble_eq_true rfl) dL_law_1064 ⟨Nat.le_of_ble_eq_true rfl, (Nat.le_of_ble_eq_true rfl)⟩ (fun _ _ _ _ _ h => h.elim) (fun v w ty1 H locs hp hh => ?_)
  obtain ⟨rfl, rfl, rfl⟩ := hp
  have hh : kH D kStr e0 A s H [(o1, .inl (z3, 1, .inr (.inl (fun _ => 0)))), (ma, .inr (16, [.int 1, .ref m1, .ref m2, .ref m3, .ref m4, .ref m5, .ref m6, .ref m7, .ref m8, .int 0, .int 0]))] [(z3, .long), (z3, .long)] _ := hh
  refine W.eq (g2 := F0 m 1067 ls [.int 0]) (by first | rfl | decide) ?_
  refine lv_istore (lv' := [(7, .int 0), (6, .int 1), (5, .int 0), (4, .ref o2), (3, .ref o1), (2, .ref ma), (1, .ref xa), (0, .ref b)]) hx hb dL_law_1067 hl (by decide) rfl (fun ls hl => ?_)
  refine lv_aload_n hx hb dL_law_1069 rfl (lv_at hl 5 rfl) ?_
  refine k_callV (C := RX11) (T := TX11) (N := 11) (ci := 16) (q0 := 1) (wr := [(o1, .inl (z3, 1, .inr (.inl (fun _ => 0))))]) (rest := []) (own := RL) ⟨hx, hb, hml, hown, hts⟩ (c_X11_thrown l hst D e0 ma 1 m1 m2 m3 m4 m5 m6 m7 m8 ) (cwV 0 hts gl_V_c_X11_thrown rfl rfl rfl (by decide +kernel) ⟨Nat.le_of_ble_eq_true rfl, Nat.le_of_ble_eq_true rfl⟩) hh rfl rfl [1] [0] [] rfl rfl rfl rfl (by decide) rfl rfl hl rfl (Nat.le_of_ble_eq_true rfl) dL_law_1070 ⟨Nat.le_of_ble_eq_true rfl, (Nat.le_of_ble_eq_true rfl)⟩ (fun _ _ _ _ _ h => h.elim) (fun v w ty1 H locs hp hh => ?_)
  obtain ⟨rfl, rfl, rfl⟩ := hp
  have hh : kH D kStr e0 A s H [(o1, .inl (z3, 1, .inr (.inl (fun _ => 0)))), (ma, .inr (16, [.int 1, .ref m1, .ref m2, .ref m3, .ref m4, .ref m5, .ref m6, .ref m7, .ref m8, .int 0, .int 0]))] [(z3, .long), (z3, .long)] _ := hh
  refine W.eq (g2 := F0 m 1073 ls [.int 1]) (by first | rfl | decide) ?_
  refine lv_iload hx hb dL_law_1073 (lv_at hl 1 rfl) ?_
  refine lv_icmp_eq (tgt := 1080) hx hb dL_law_1075 (by decide) (fun _ => ?_) (fun c_1075 => absurd (by decide) c_1075)
  refine lv_iload hx hb dL_law_1080 (lv_at hl 1 rfl) ?_
  refine lv_if_ne (tgt := 1097) hx hb dL_law_1082 (by decide) (fun _ => ?_) (fun c_1082 => absurd c_1082 (by decide))
  refine lv_goto (tgt := 3429) hx hb dL_law_1097 (by decide) ?_
  refine W.widen (k := 1000) (n := 100000) (Nat.le_of_ble_eq_true rfl) (Nat.le_of_ble_eq_true rfl) ?_
  exact kk _ _ _ hh.2.2.2.1 (lv_sub hl [7, 2] rfl)
set_option maxHeartbeats 4000000 in
set_option maxRecDepth 100000 in
theorem law_12 {p : Program} {l : Launch} {e : Env} {s : State} {m : MethodId} {below : List Frame} {meth : Method} {c : Code} {Q : State → Prop} {b : Nat} {xs : Nat → Int32} {D : va_G} {e0 : kE} {A : Nat → Prop} (hst : l.stackTraces = false) (hx : p.tables.exec = Jvm.exec) (hb : c.code = cL_law) (hml : c.maxLocals = 9) (hts : ∀ w ∈ lw_tbl, w.before #[Value.ref b] s = true) (hown : s.vm.findClass RL = some m.cls) (hX : va_X b 5 xs s s.heap) (hbl : b < s.heap.size) (hbA : ¬ A b) {xa x1 x2 x3 x4 x5 g1 g2 g3 g4 h1 h2 h3 h4 h5 ma m1 m2 m3 m4 m5 m6 m7 m8 o1 o2 : Nat} {z1 z2 z3 z4 : ClassId}  {H : Heap} {locs : List Loc} {ls : Array Slot} (hh : kH D kStr e0 A s H (lwW e0 xa x1 x2 x3 x4 x5 g1 g2 g3 g4 h1 h2 h3 h4 h5 ma m1 m2 m3 m4 m5 m6 m7 m8 o1 o2 z1 z2 z3 z4) (lwT z1 z2 z3 z4) locs) (hl : lv_has ls 9 (lwL b xa ma o1 o2)) (kk : lwK p l e s m below meth c Q b A) : W p l e room_1 s m #[Value.ref b] below meth c H locs 100 10000 Q (F0 m 1100 ls []) := by
  have hh : kH D kStr e0 A s H [(xa, .inr (11, [.ref x1, .int 0, .ref x2, .int 0, .ref x3, .ref x4, .ref x5, .int 0])), (ma, .inr (16, [.int 0, .ref m1, .ref m2, .ref m3, .ref m4, .ref m5, .ref m6, .ref m7, .ref m8, .int 0, .int 0])), (m2, .inr (4, [.int 0, .ref e0.1, .int 0])), (o1, .inl (z3, 1, .inr (.inl (fun _ => 0))))] [(z3, .long)] _ := hh.sub [0, 5, 7, 14] [2] rfl rfl rfl
  have hl : lv_has ls 9 [(5, .int 0), (4, .ref o2), (3, .ref o1), (2, .ref ma), (1, .ref xa), (0, .ref b)] := hl
  refine lv_aload_n hx hb dL_law_1100 rfl (lv_at hl 4 rfl) ?_
  refine lv_aload_n hx hb dL_law_1101 rfl (lv_at hl 5 rfl) ?_
  refine lv_iload hx hb dL_law_1102 (lv_at hl 0 rfl) ?_
  refine lv_iconst (v := 1) hx hb dL_law_1104 (by decide) ?_
  refine lv_iadd hx hb dL_law_1105 ?_
  refine W.eq (g2 := F0 m 1106 ls [.int 1, .ref b, .ref xa]) (by first | rfl | decide) ?_
  refine va_sld hx hb hX hbl hbA hh.2.2.2.1 (by unfold vp_in; decide) dL_law_1106 ?_
  refine W.eq (g2 := F0 m 1107 ls [.int (xs 1), .ref xa]) rfl ?_
  refine lv_aload_n hx hb dL_law_1107 rfl (lv_at hl 2 rfl) ?_
  refine k_callSX (wr := [(ma, .inr (16, [.int 0, .ref m1, .ref m2, .ref m3, .ref m4, .ref m5, .ref m6, .ref m7, .ref m8, .int 0, .int 0])), (m2, .inr (4, [.int 0, .ref e0.1, .int 0]))]) (rest := []) (own := RL) ⟨hx, hb, hml, hown, hts⟩ (c_L_kindOf l hst D e0 xa x1 x2 x3 x4 x5 ((xs 1)) o1 z3 ((fun _ => 0)) ) (vx_cwSW 3 hts gl_S_c_L_kindOf rfl rfl rfl (by decide +kernel) ⟨Nat.le_of_ble_eq_true rfl, Nat.le_of_ble_eq_true rfl⟩) hh [0, 3] [1, 2] [0] rfl rfl rfl rfl (by decide) rfl rfl hl rfl (Nat.le_of_ble_eq_true rfl) dL_law_1108 ⟨Nat.le_of_ble_eq_true rfl, (Nat.le_of_ble_eq_true rfl)⟩ (fun _ _ _ _ _ h => h.elim) (fun v w ty1 H locs hp hh => ?_)
  obtain ⟨rfl, rfl, rfl⟩ := hp
  have hh : kH D kStr e0 A s H [(ma, .inr (16, [.int 0, .ref m1, .ref m2, .ref m3, .ref m4, .ref m5, .ref m6, .ref m7, .ref m8, .int 0, .int 0])), (m2, .inr (4, [.int 0, .ref e0.1, .int 0])), (o1, .inl (z3, 1, .inr (.inl (fun _ => 0))))] [(z3, .long), (z3, .long)] _ := hh
  refine W.eq (g2 := F0 m 1111 ls [.int 1]) (by first | rfl | decide) ?_
  refine lv_istore (lv' := [(6, .int 1), (5, .int 0), (4, .ref o2), (3, .ref o1), (2, .ref ma), (1, .ref xa), (0, .ref b)]) hx hb dL_law_1111 hl (by decide) rfl (fun ls hl => ?_)
  refine lv_aload_n hx hb dL_law_1113 rfl (lv_at hl 4 rfl) ?_
  refine lv_aload_n hx hb dL_law_1114 rfl (lv_at hl 6 rfl) ?_
  refine lv_iload hx hb dL_law_1115 (lv_at hl 1 rfl) ?_
  refine lv_iconst (v := 1) hx hb dL_law_1117 (by decide) ?_
  refine lv_iadd hx hb dL_law_1118 ?_
  refine W.eq (g2 := F0 m 1119 ls [.int 1, .ref b, .ref ma]) (by first | rfl | decide) ?_
  refine va_sld hx hb hX hbl hbA hh.2.2.2.1 (by unfold vp_in; decide) dL_law_1119 ?_
  refine W.eq (g2 := F0 m 1120 ls [.int (xs 1), .ref ma]) rfl ?_
  refine k_callV (C := RX11) (T := TX11) (N := 11) (ci := 16) (q0 := 0) (wr := [(o1, .inl (z3, 1, .inr (.inl (fun _ => 0))))]) (rest := []) (own := RL) ⟨hx, hb, hml, hown, hts⟩ (c_X11_kindOf l hst D e0 ma 0 m1 m2 m3 m4 m5 m6 m7 m8 ((xs 1)) ) (cwV 1 hts gl_V_c_X11_kindOf rfl rfl rfl (by decide +kernel) ⟨Nat.le_of_ble_eq_true rfl, Nat.le_of_ble_eq_true rfl⟩) hh rfl rfl [0, 1] [2] [] rfl rfl rfl rfl (by decide) rfl rfl hl rfl (Nat.le_of_ble_eq_true rfl) dL_law_1120 ⟨Nat.le_of_ble_eq_true rfl, (Nat.le_of_ble_eq_true rfl)⟩ (fun _ _ _ _ _ h => h.elim) (fun v w ty1 H locs hp hh => ?_)
  obtain ⟨rfl, rfl, rfl⟩ := hp
  have hh : kH D kStr e0 A s H [(o1, .inl (z3, 1, .inr (.inl (fun _ => 0)))), (ma, .inr (16, [.int 1, .ref m1, .ref m2, .ref m3, .ref m4, .ref m5, .ref m6, .ref m7, .ref m8, .int 0, .int 0]))] [(z3, .long), (z3, .long)] _ := hh
  refine W.eq (g2 := F0 m 1123 ls [.int 32]) (by first | rfl | decide) ?_
  refine lv_istore (lv' := [(7, .int 32), (6, .int 1), (5, .int 0), (4, .ref o2), (3, .ref o1), (2, .ref ma), (1, .ref xa), (0, .ref b)]) hx hb dL_law_1123 hl (by decide) rfl (fun ls hl => ?_)
  refine lv_aload_n hx hb dL_law_1125 rfl (lv_at hl 5 rfl) ?_
  refine k_callV (C := RX11) (T := TX11) (N := 11) (ci := 16) (q0 := 1) (wr := [(o1, .inl (z3, 1, .inr (.inl (fun _ => 0))))]) (rest := []) (own := RL) ⟨hx, hb, hml, hown, hts⟩ (c_X11_thrown l hst D e0 ma 1 m1 m2 m3 m4 m5 m6 m7 m8 ) (cwV 0 hts gl_V_c_X11_thrown rfl rfl rfl (by decide +kernel) ⟨Nat.le_of_ble_eq_true rfl, Nat.le_of_ble_eq_true rfl⟩) hh rfl rfl [1] [0] [] rfl rfl rfl rfl (by decide) rfl rfl hl rfl (Nat.le_of_ble_eq_true rfl) dL_law_1126 ⟨Nat.le_of_ble_eq_true rfl, (Nat.le_of_ble_eq_true rfl)⟩ (fun _ _ _ _ _ h => h.elim) (fun v w ty1 H locs hp hh => ?_)
  obtain ⟨rfl, rfl, rfl⟩ := hp
  have hh : kH D kStr e0 A s H [(o1, .inl (z3, 1, .inr (.inl (fun _ => 0)))), (ma, .inr (16, [.int 1, .ref m1, .ref m2, .ref m3, .ref m4, .ref m5, .ref m6, .ref m7, .ref m8, .int 0, .int 0]))] [(z3, .long), (z3, .long)] _ := hh
  refine W.eq (g2 := F0 m 1129 ls [.int 1]) (by first | rfl | decide) ?_
  refine lv_iload hx hb dL_law_1129 (lv_at hl 1 rfl) ?_
  refine lv_icmp_eq (tgt := 1136) hx hb dL_law_1131 (by decide) (fun _ => ?_) (fun c_1131 => absurd (by decide) c_1131)
  refine lv_iload hx hb dL_law_1136 (lv_at hl 1 rfl) ?_
  refine lv_if_ne (tgt := 1153) hx hb dL_law_1138 (by decide) (fun _ => ?_) (fun c_1138 => absurd c_1138 (by decide))
  refine lv_goto (tgt := 3429) hx hb dL_law_1153 (by decide) ?_
  refine W.widen (k := 1000) (n := 100000) (Nat.le_of_ble_eq_true rfl) (Nat.le_of_ble_eq_true rfl) ?_
  exact kk _ _ _ hh.2.2.2.1 (lv_sub hl [7, 2] rfl)
set_option maxHeartbeats 4000000 in
set_option maxRecDepth 100000 in
theorem law_13 {p : Program} {l : Launch} {e : Env} {s : State} {m : MethodId} {below : List Frame} {meth : Method} {c : Code} {Q : State → Prop} {b : Nat} {xs : Nat → Int32} {D : va_G} {e0 : kE} {A : Nat → Prop} (hst : l.stackTraces = false) (hx : p.tables.exec = Jvm.exec) (hb : c.code = cL_law) (hml : c.maxLocals = 9) (hts : ∀ w ∈ lw_tbl, w.before #[Value.ref b] s = true) (hown : s.vm.findClass RL = some m.cls) (hX : va_X b 5 xs s s.heap) (hbl : b < s.heap.size) (hbA : ¬ A b) {xa x1 x2 x3 x4 x5 g1 g2 g3 g4 h1 h2 h3 h4 h5 ma m1 m2 m3 m4 m5 m6 m7 m8 o1 o2 : Nat} {z1 z2 z3 z4 : ClassId}  {H : Heap} {locs : List Loc} {ls : Array Slot} (hh : kH D kStr e0 A s H (lwW e0 xa x1 x2 x3 x4 x5 g1 g2 g3 g4 h1 h2 h3 h4 h5 ma m1 m2 m3 m4 m5 m6 m7 m8 o1 o2 z1 z2 z3 z4) (lwT z1 z2 z3 z4) locs) (hl : lv_has ls 9 (lwL b xa ma o1 o2)) (kk : lwK p l e s m below meth c Q b A) : W p l e room_1 s m #[Value.ref b] below meth c H locs 100 10000 Q (F0 m 1156 ls []) := by
  have hh : kH D kStr e0 A s H [(xa, .inr (11, [.ref x1, .int 0, .ref x2, .int 0, .ref x3, .ref x4, .ref x5, .int 0])), (ma, .inr (16, [.int 0, .ref m1, .ref m2, .ref m3, .ref m4, .ref m5, .ref m6, .ref m7, .ref m8, .int 0, .int 0])), (m2, .inr (4, [.int 0, .ref e0.1, .int 0])), (o1, .inl (z3, 1, .inr (.inl (fun _ => 0))))] [(z3, .long)] _ := hh.sub [0, 5, 7, 14] [2] rfl rfl rfl
  have hl : lv_has ls 9 [(5, .int 0), (4, .ref o2), (3, .ref o1), (2, .ref ma), (1, .ref xa), (0, .ref b)] := hl
  refine lv_aload_n hx hb dL_law_1156 rfl (lv_at hl 4 rfl) ?_
  refine lv_aload_n hx hb dL_law_1157 rfl (lv_at hl 5 rfl) ?_
  refine lv_iload hx hb dL_law_1158 (lv_at hl 0 rfl) ?_
  refine lv_iconst (v := 1) hx hb dL_law_1160 (by decide) ?_
  refine lv_iadd hx hb dL_law_1161 ?_
  refine W.eq (g2 := F0 m 1162 ls [.int 1, .ref b, .ref xa]) (by first | rfl | decide) ?_
  refine va_sld hx hb hX hbl hbA hh.2.2.2.1 (by unfold vp_in; decide) dL_law_1162 ?_
  refine W.eq (g2 := F0 m 1163 ls [.int (xs 1), .ref xa]) rfl ?_
  refine lv_aload_n hx hb dL_law_1163 rfl (lv_at hl 2 rfl) ?_
  refine k_callSX (wr := [(ma, .inr (16, [.int 0, .ref m1, .ref m2, .ref m3, .ref m4, .ref m5, .ref m6, .ref m7, .ref m8, .int 0, .int 0])), (m2, .inr (4, [.int 0, .ref e0.1, .int 0]))]) (rest := []) (own := RL) ⟨hx, hb, hml, hown, hts⟩ (c_L_lengthOf l hst D e0 xa x1 x2 x3 x4 x5 ((xs 1)) o1 z3 ((fun _ => 0)) ) (vx_cwSW 3 hts gl_S_c_L_lengthOf rfl rfl rfl (by decide +kernel) ⟨Nat.le_of_ble_eq_true rfl, Nat.le_of_ble_eq_true rfl⟩) hh [0, 3] [1, 2] [0] rfl rfl rfl rfl (by decide) rfl rfl hl rfl (Nat.le_of_ble_eq_true rfl) dL_law_1164 ⟨Nat.le_of_ble_eq_true rfl, (Nat.le_of_ble_eq_true rfl)⟩ (fun _ _ _ _ _ h => h.elim) (fun v w ty1 H locs hp hh => ?_)
  obtain ⟨rfl, rfl, rfl⟩ := hp
  have hh : kH D kStr e0 A s H [(ma, .inr (16, [.int 0, .ref m1, .ref m2, .ref m3, .ref m4, .ref m5, .ref m6, .ref m7, .ref m8, .int 0, .int 0])), (m2, .inr (4, [.int 0, .ref e0.1, .int 0])), (o1, .inl (z3, 1, .inr (.inl (fun _ => 0))))] [(z3, .long), (z3, .long)] _ := hh
  refine W.eq (g2 := F0 m 1167 ls [.int 1]) (by first | rfl | decide) ?_
  refine lv_istore (lv' := [(6, .int 1), (5, .int 0), (4, .ref o2), (3, .ref o1), (2, .ref ma), (1, .ref xa), (0, .ref b)]) hx hb dL_law_1167 hl (by decide) rfl (fun ls hl => ?_)
  refine lv_aload_n hx hb dL_law_1169 rfl (lv_at hl 4 rfl) ?_
  refine lv_aload_n hx hb dL_law_1170 rfl (lv_at hl 6 rfl) ?_
  refine lv_iload hx hb dL_law_1171 (lv_at hl 1 rfl) ?_
  refine lv_iconst (v := 1) hx hb dL_law_1173 (by decide) ?_
  refine lv_iadd hx hb dL_law_1174 ?_
  refine W.eq (g2 := F0 m 1175 ls [.int 1, .ref b, .ref ma]) (by first | rfl | decide) ?_
  refine va_sld hx hb hX hbl hbA hh.2.2.2.1 (by unfold vp_in; decide) dL_law_1175 ?_
  refine W.eq (g2 := F0 m 1176 ls [.int (xs 1), .ref ma]) rfl ?_
  refine k_callV (C := RX11) (T := TX11) (N := 11) (ci := 16) (q0 := 0) (wr := [(o1, .inl (z3, 1, .inr (.inl (fun _ => 0))))]) (rest := []) (own := RL) ⟨hx, hb, hml, hown, hts⟩ (c_X11_lengthOf l hst D e0 ma 0 m1 m2 m3 m4 m5 m6 m7 m8 ((xs 1)) ) (cwV 1 hts gl_V_c_X11_lengthOf rfl rfl rfl (by decide +kernel) ⟨Nat.le_of_ble_eq_true rfl, Nat.le_of_ble_eq_true rfl⟩) hh rfl rfl [0, 1] [2] [] rfl rfl rfl rfl (by decide) rfl rfl hl rfl (Nat.le_of_ble_eq_true rfl) dL_law_1176 ⟨Nat.le_of_ble_eq_true rfl, (Nat.le_of_ble_eq_true rfl)⟩ (fun _ _ _ _ _ h => h.elim) (fun v w ty1 H locs hp hh => ?_)
  obtain ⟨rfl, rfl, rfl⟩ := hp
  have hh : kH D kStr e0 A s H [(o1, .inl (z3, 1, .inr (.inl (fun _ => 0)))), (ma, .inr (16, [.int 1, .ref m1, .ref m2, .ref m3, .ref m4, .ref m5, .ref m6, .ref m7, .ref m8, .int 0, .int 0]))] [(z3, .long), (z3, .long)] _ := hh
  refine W.eq (g2 := F0 m 1179 ls [.int 0]) (by first | rfl | decide) ?_
  refine lv_istore (lv' := [(7, .int 0), (6, .int 1), (5, .int 0), (4, .ref o2), (3, .ref o1), (2, .ref ma), (1, .ref xa), (0, .ref b)]) hx hb dL_law_1179 hl (by decide) rfl (fun ls hl => ?_)
  refine lv_aload_n hx hb dL_law_1181 rfl (lv_at hl 5 rfl) ?_
  refine k_callV (C := RX11) (T := TX11) (N := 11) (ci := 16) (q0 := 1) (wr := [(o1, .inl (z3, 1, .inr (.inl (fun _ => 0))))]) (rest := []) (own := RL) ⟨hx, hb, hml, hown, hts⟩ (c_X11_thrown l hst D e0 ma 1 m1 m2 m3 m4 m5 m6 m7 m8 ) (cwV 0 hts gl_V_c_X11_thrown rfl rfl rfl (by decide +kernel) ⟨Nat.le_of_ble_eq_true rfl, Nat.le_of_ble_eq_true rfl⟩) hh rfl rfl [1] [0] [] rfl rfl rfl rfl (by decide) rfl rfl hl rfl (Nat.le_of_ble_eq_true rfl) dL_law_1182 ⟨Nat.le_of_ble_eq_true rfl, (Nat.le_of_ble_eq_true rfl)⟩ (fun _ _ _ _ _ h => h.elim) (fun v w ty1 H locs hp hh => ?_)
  obtain ⟨rfl, rfl, rfl⟩ := hp
  have hh : kH D kStr e0 A s H [(o1, .inl (z3, 1, .inr (.inl (fun _ => 0)))), (ma, .inr (16, [.int 1, .ref m1, .ref m2, .ref m3, .ref m4, .ref m5, .ref m6, .ref m7, .ref m8, .int 0, .int 0]))] [(z3, .long), (z3, .long)] _ := hh
  refine W.eq (g2 := F0 m 1185 ls [.int 1]) (by first | rfl | decide) ?_
  refine lv_iload hx hb dL_law_1185 (lv_at hl 1 rfl) ?_
  refine lv_icmp_eq (tgt := 1192) hx hb dL_law_1187 (by decide) (fun _ => ?_) (fun c_1187 => absurd (by decide) c_1187)
  refine lv_iload hx hb dL_law_1192 (lv_at hl 1 rfl) ?_
  refine lv_if_ne (tgt := 1209) hx hb dL_law_1194 (by decide) (fun _ => ?_) (fun c_1194 => absurd c_1194 (by decide))
  refine lv_goto (tgt := 3429) hx hb dL_law_1209 (by decide) ?_
  refine W.widen (k := 1000) (n := 100000) (Nat.le_of_ble_eq_true rfl) (Nat.le_of_ble_eq_true rfl) ?_
  exact kk _ _ _ hh.2.2.2.1 (lv_sub hl [7, 2] rfl)
set_option maxHeartbeats 4000000 in
set_option maxRecDepth 100000 in
theorem law_14 {p : Program} {l : Launch} {e : Env} {s : State} {m : MethodId} {below : List Frame} {meth : Method} {c : Code} {Q : State → Prop} {b : Nat} {xs : Nat → Int32} {D : va_G} {e0 : kE} {A : Nat → Prop} (hst : l.stackTraces = false) (hx : p.tables.exec = Jvm.exec) (hb : c.code = cL_law) (hml : c.maxLocals = 9) (hts : ∀ w ∈ lw_tbl, w.before #[Value.ref b] s = true) (hown : s.vm.findClass RL = some m.cls) (hX : va_X b 5 xs s s.heap) (hbl : b < s.heap.size) (hbA : ¬ A b) {xa x1 x2 x3 x4 x5 g1 g2 g3 g4 h1 h2 h3 h4 h5 ma m1 m2 m3 m4 m5 m6 m7 m8 o1 o2 : Nat} {z1 z2 z3 z4 : ClassId}  {H : Heap} {locs : List Loc} {ls : Array Slot} (hh : kH D kStr e0 A s H (lwW e0 xa x1 x2 x3 x4 x5 g1 g2 g3 g4 h1 h2 h3 h4 h5 ma m1 m2 m3 m4 m5 m6 m7 m8 o1 o2 z1 z2 z3 z4) (lwT z1 z2 z3 z4) locs) (hl : lv_has ls 9 (lwL b xa ma o1 o2)) (kk : lwK p l e s m below meth c Q b A) : W p l e room_1 s m #[Value.ref b] below meth c H locs 100 10000 Q (F0 m 1212 ls []) := by
  have hh : kH D kStr e0 A s H [(xa, .inr (11, [.ref x1, .int 0, .ref x2, .int 0, .ref x3, .ref x4, .ref x5, .int 0])), (ma, .inr (16, [.int 0, .ref m1, .ref m2, .ref m3, .ref m4, .ref m5, .ref m6, .ref m7, .ref m8, .int 0, .int 0])), (m2, .inr (4, [.int 0, .ref e0.1, .int 0])), (o1, .inl (z3, 1, .inr (.inl (fun _ => 0))))] [(z3, .long)] _ := hh.sub [0, 5, 7, 14] [2] rfl rfl rfl
  have hl : lv_has ls 9 [(5, .int 0), (4, .ref o2), (3, .ref o1), (2, .ref ma), (1, .ref xa), (0, .ref b)] := hl
  refine lv_aload_n hx hb dL_law_1212 rfl (lv_at hl 4 rfl) ?_
  refine lv_aload_n hx hb dL_law_1213 rfl (lv_at hl 5 rfl) ?_
  refine lv_iload hx hb dL_law_1214 (lv_at hl 0 rfl) ?_
  refine lv_iconst (v := 1) hx hb dL_law_1216 (by decide) ?_
  refine lv_iadd hx hb dL_law_1217 ?_
  refine W.eq (g2 := F0 m 1218 ls [.int 1, .ref b, .ref xa]) (by first | rfl | decide) ?_
  refine va_sld hx hb hX hbl hbA hh.2.2.2.1 (by unfold vp_in; decide) dL_law_1218 ?_
  refine W.eq (g2 := F0 m 1219 ls [.int (xs 1), .ref xa]) rfl ?_
  refine lv_aload_n hx hb dL_law_1219 rfl (lv_at hl 5 rfl) ?_
  refine lv_iload hx hb dL_law_1220 (lv_at hl 0 rfl) ?_
  refine lv_iconst (v := 2) hx hb dL_law_1222 (by decide) ?_
  refine lv_iadd hx hb dL_law_1223 ?_
  refine W.eq (g2 := F0 m 1224 ls [.int 2, .ref b, .int (xs 1), .ref xa]) (by first | rfl | decide) ?_
  refine va_sld hx hb hX hbl hbA hh.2.2.2.1 (by unfold vp_in; decide) dL_law_1224 ?_
  refine W.eq (g2 := F0 m 1225 ls [.int (xs 2), .int (xs 1), .ref xa]) rfl ?_
  refine lv_aload_n hx hb dL_law_1225 rfl (lv_at hl 2 rfl) ?_
  refine k_callSX (wr := [(ma, .inr (16, [.int 0, .ref m1, .ref m2, .ref m3, .ref m4, .ref m5, .ref m6, .ref m7, .ref m8, .int 0, .int 0])), (m2, .inr (4, [.int 0, .ref e0.1, .int 0]))]) (rest := []) (own := RL) ⟨hx, hb, hml, hown, hts⟩ (c_L_sampleOf l hst D e0 xa x1 x2 x3 x4 x5 ((xs 1)) ((xs 2)) o1 z3 ((fun _ => 0)) ) (vx_cwSW 4 hts gl_S_c_L_sampleOf rfl rfl rfl (by decide +kernel) ⟨Nat.le_of_ble_eq_true rfl, Nat.le_of_ble_eq_true rfl⟩) hh [0, 3] [1, 2] [0] rfl rfl rfl rfl (by decide) rfl rfl hl rfl (Nat.le_of_ble_eq_true rfl) dL_law_1226 ⟨Nat.le_of_ble_eq_true rfl, (Nat.le_of_ble_eq_true rfl)⟩ (fun _ _ _ _ _ h => h.elim) (fun v w ty1 H locs hp hh => ?_)
  obtain ⟨rfl, rfl, rfl⟩ := hp
  have hh : kH D kStr e0 A s H [(ma, .inr (16, [.int 0, .ref m1, .ref m2, .ref m3, .ref m4, .ref m5, .ref m6, .ref m7, .ref m8, .int 0, .int 0])), (m2, .inr (4, [.int 0, .ref e0.1, .int 0])), (o1, .inl (z3, 1, .inr (.inl (fun _ => 0))))] [(z3, .long), (z3, .long)] _ := hh
  refine W.eq (g2 := F0 m 1229 ls [.int 1]) (by first | rfl | decide) ?_
  refine lv_istore (lv' := [(6, .int 1), (5, .int 0), (4, .ref o2), (3, .ref o1), (2, .ref ma), (1, .ref xa), (0, .ref b)]) hx hb dL_law_1229 hl (by decide) rfl (fun ls hl => ?_)
  refine lv_aload_n hx hb dL_law_1231 rfl (lv_at hl 4 rfl) ?_
  refine lv_aload_n hx hb dL_law_1232 rfl (lv_at hl 6 rfl) ?_
  refine lv_iload hx hb dL_law_1233 (lv_at hl 1 rfl) ?_
  refine lv_iconst (v := 1) hx hb dL_law_1235 (by decide) ?_
  refine lv_iadd hx hb dL_law_1236 ?_
  refine W.eq (g2 := F0 m 1237 ls [.int 1, .ref b, .ref ma]) (by first | rfl | decide) ?_
  refine va_sld hx hb hX hbl hbA hh.2.2.2.1 (by unfold vp_in; decide) dL_law_1237 ?_
  refine W.eq (g2 := F0 m 1238 ls [.int (xs 1), .ref ma]) rfl ?_
  refine lv_aload_n hx hb dL_law_1238 rfl (lv_at hl 6 rfl) ?_
  refine lv_iload hx hb dL_law_1239 (lv_at hl 1 rfl) ?_
  refine lv_iconst (v := 2) hx hb dL_law_1241 (by decide) ?_
  refine lv_iadd hx hb dL_law_1242 ?_
  refine W.eq (g2 := F0 m 1243 ls [.int 2, .ref b, .int (xs 1), .ref ma]) (by first | rfl | decide) ?_
  refine va_sld hx hb hX hbl hbA hh.2.2.2.1 (by unfold vp_in; decide) dL_law_1243 ?_
  refine W.eq (g2 := F0 m 1244 ls [.int (xs 2), .int (xs 1), .ref ma]) rfl ?_
  refine k_callV (C := RX11) (T := TX11) (N := 11) (ci := 16) (q0 := 0) (wr := [(o1, .inl (z3, 1, .inr (.inl (fun _ => 0))))]) (rest := []) (own := RL) ⟨hx, hb, hml, hown, hts⟩ (c_X11_sampleOf l hst D e0 ma 0 m1 m2 m3 m4 m5 m6 m7 m8 ((xs 1)) ((xs 2)) ) (cwV 2 hts gl_V_c_X11_sampleOf rfl rfl rfl (by decide +kernel) ⟨Nat.le_of_ble_eq_true rfl, Nat.le_of_ble_eq_true rfl⟩) hh rfl rfl [0, 1] [2] [] rfl rfl rfl rfl (by decide) rfl rfl hl rfl (Nat.le_of_ble_eq_true rfl) dL_law_1244 ⟨Nat.le_of_ble_eq_true rfl, (Nat.le_of_ble_eq_true rfl)⟩ (fun _ _ _ _ _ h => h.elim) (fun v w ty1 H locs hp hh => ?_)
  obtain ⟨rfl, rfl, rfl⟩ := hp
  have hh : kH D kStr e0 A s H [(o1, .inl (z3, 1, .inr (.inl (fun _ => 0)))), (ma, .inr (16, [.int 1, .ref m1, .ref m2, .ref m3, .ref m4, .ref m5, .ref m6, .ref m7, .ref m8, .int 0, .int 0]))] [(z3, .long), (z3, .long)] _ := hh
  refine W.eq (g2 := F0 m 1247 ls [.int 0]) (by first | rfl | decide) ?_
  refine lv_istore (lv' := [(7, .int 0), (6, .int 1), (5, .int 0), (4, .ref o2), (3, .ref o1), (2, .ref ma), (1, .ref xa), (0, .ref b)]) hx hb dL_law_1247 hl (by decide) rfl (fun ls hl => ?_)
  refine lv_aload_n hx hb dL_law_1249 rfl (lv_at hl 5 rfl) ?_
  refine k_callV (C := RX11) (T := TX11) (N := 11) (ci := 16) (q0 := 1) (wr := [(o1, .inl (z3, 1, .inr (.inl (fun _ => 0))))]) (rest := []) (own := RL) ⟨hx, hb, hml, hown, hts⟩ (c_X11_thrown l hst D e0 ma 1 m1 m2 m3 m4 m5 m6 m7 m8 ) (cwV 0 hts gl_V_c_X11_thrown rfl rfl rfl (by decide +kernel) ⟨Nat.le_of_ble_eq_true rfl, Nat.le_of_ble_eq_true rfl⟩) hh rfl rfl [1] [0] [] rfl rfl rfl rfl (by decide) rfl rfl hl rfl (Nat.le_of_ble_eq_true rfl) dL_law_1250 ⟨Nat.le_of_ble_eq_true rfl, (Nat.le_of_ble_eq_true rfl)⟩ (fun _ _ _ _ _ h => h.elim) (fun v w ty1 H locs hp hh => ?_)
  obtain ⟨rfl, rfl, rfl⟩ := hp
  have hh : kH D kStr e0 A s H [(o1, .inl (z3, 1, .inr (.inl (fun _ => 0)))), (ma, .inr (16, [.int 1, .ref m1, .ref m2, .ref m3, .ref m4, .ref m5, .ref m6, .ref m7, .ref m8, .int 0, .int 0]))] [(z3, .long), (z3, .long)] _ := hh
  refine W.eq (g2 := F0 m 1253 ls [.int 1]) (by first | rfl | decide) ?_
  refine lv_iload hx hb dL_law_1253 (lv_at hl 1 rfl) ?_
  refine lv_icmp_eq (tgt := 1260) hx hb dL_law_1255 (by decide) (fun _ => ?_) (fun c_1255 => absurd (by decide) c_1255)
  refine lv_iload hx hb dL_law_1260 (lv_at hl 1 rfl) ?_
  refine lv_if_ne (tgt := 1277) hx hb dL_law_1262 (by decide) (fun _ => ?_) (fun c_1262 => absurd c_1262 (by decide))
  refine lv_goto (tgt := 3429) hx hb dL_law_1277 (by decide) ?_
  refine W.widen (k := 1000) (n := 100000) (Nat.le_of_ble_eq_true rfl) (Nat.le_of_ble_eq_true rfl) ?_
  exact kk _ _ _ hh.2.2.2.1 (lv_sub hl [7, 2] rfl)
set_option maxHeartbeats 4000000 in
set_option maxRecDepth 100000 in
theorem law_15 {p : Program} {l : Launch} {e : Env} {s : State} {m : MethodId} {below : List Frame} {meth : Method} {c : Code} {Q : State → Prop} {b : Nat} {xs : Nat → Int32} {D : va_G} {e0 : kE} {A : Nat → Prop} (hst : l.stackTraces = false) (hx : p.tables.exec = Jvm.exec) (hb : c.code = cL_law) (hml : c.maxLocals = 9) (hts : ∀ w ∈ lw_tbl, w.before #[Value.ref b] s = true) (hown : s.vm.findClass RL = some m.cls) (hX : va_X b 5 xs s s.heap) (hbl : b < s.heap.size) (hbA : ¬ A b) {xa x1 x2 x3 x4 x5 g1 g2 g3 g4 h1 h2 h3 h4 h5 ma m1 m2 m3 m4 m5 m6 m7 m8 o1 o2 : Nat} {z1 z2 z3 z4 : ClassId}  {H : Heap} {locs : List Loc} {ls : Array Slot} (hh : kH D kStr e0 A s H (lwW e0 xa x1 x2 x3 x4 x5 g1 g2 g3 g4 h1 h2 h3 h4 h5 ma m1 m2 m3 m4 m5 m6 m7 m8 o1 o2 z1 z2 z3 z4) (lwT z1 z2 z3 z4) locs) (hl : lv_has ls 9 (lwL b xa ma o1 o2)) (kk : lwK p l e s m below meth c Q b A) : W p l e room_1 s m #[Value.ref b] below meth c H locs 100 10000 Q (F0 m 1280 ls []) := by
  have hh : kH D kStr e0 A s H [(xa, .inr (11, [.ref x1, .int 0, .ref x2, .int 0, .ref x3, .ref x4, .ref x5, .int 0])), (ma, .inr (16, [.int 0, .ref m1, .ref m2, .ref m3, .ref m4, .ref m5, .ref m6, .ref m7, .ref m8, .int 0, .int 0])), (m2, .inr (4, [.int 0, .ref e0.1, .int 0])), (o1, .inl (z3, 1, .inr (.inl (fun _ => 0))))] [(z3, .long)] _ := hh.sub [0, 5, 7, 14] [2] rfl rfl rfl
  have hl : lv_has ls 9 [(5, .int 0), (4, .ref o2), (3, .ref o1), (2, .ref ma), (1, .ref xa), (0, .ref b)] := hl
  refine lv_aload_n hx hb dL_law_1280 rfl (lv_at hl 4 rfl) ?_
  refine lv_aload_n hx hb dL_law_1281 rfl (lv_at hl 5 rfl) ?_
  refine lv_iload hx hb dL_law_1282 (lv_at hl 0 rfl) ?_
  refine lv_iconst (v := 1) hx hb dL_law_1284 (by decide) ?_
  refine lv_iadd hx hb dL_law_1285 ?_
  refine W.eq (g2 := F0 m 1286 ls [.int 1, .ref b, .ref xa]) (by first | rfl | decide) ?_
  refine va_sld hx hb hX hbl hbA hh.2.2.2.1 (by unfold vp_in; decide) dL_law_1286 ?_
  refine W.eq (g2 := F0 m 1287 ls [.int (xs 1), .ref xa]) rfl ?_
  refine lv_aload_n hx hb dL_law_1287 rfl (lv_at hl 2 rfl) ?_
  refine k_callSX (wr := [(ma, .inr (16, [.int 0, .ref m1, .ref m2, .ref m3, .ref m4, .ref m5, .ref m6, .ref m7, .ref m8, .int 0, .int 0])), (m2, .inr (4, [.int 0, .ref e0.1, .int 0]))]) (rest := []) (own := RL) ⟨hx, hb, hml, hown, hts⟩ (c_L_loudness l hst D e0 xa x1 x2 x3 x4 x5 ((xs 1)) o1 z3 ((fun _ => 0)) ) (vx_cwSW 3 hts gl_S_c_L_loudness rfl rfl rfl (by decide +kernel) ⟨Nat.le_of_ble_eq_true rfl, Nat.le_of_ble_eq_true rfl⟩) hh [0, 3] [1, 2] [0] rfl rfl rfl rfl (by decide) rfl rfl hl rfl (Nat.le_of_ble_eq_true rfl) dL_law_1288 ⟨Nat.le_of_ble_eq_true rfl, (Nat.le_of_ble_eq_true rfl)⟩ (fun _ _ _ _ _ h => h.elim) (fun v w ty1 H locs hp hh => ?_)
  obtain ⟨rfl, rfl, rfl⟩ := hp
  have hh : kH D kStr e0 A s H [(ma, .inr (16, [.int 0, .ref m1, .ref m2, .ref m3, .ref m4, .ref m5, .ref m6, .ref m7, .ref m8, .int 0, .int 0])), (m2, .inr (4, [.int 0, .ref e0.1, .int 0])), (o1, .inl (z3, 1, .inr (.inl (fun _ => 0))))] [(z3, .long), (z3, .long)] _ := hh
  refine W.eq (g2 := F0 m 1291 ls [.int 1]) (by first | rfl | decide) ?_
  refine lv_istore (lv' := [(6, .int 1), (5, .int 0), (4, .ref o2), (3, .ref o1), (2, .ref ma), (1, .ref xa), (0, .ref b)]) hx hb dL_law_1291 hl (by decide) rfl (fun ls hl => ?_)
  refine lv_aload_n hx hb dL_law_1293 rfl (lv_at hl 4 rfl) ?_
  refine lv_aload_n hx hb dL_law_1294 rfl (lv_at hl 6 rfl) ?_
  refine lv_iload hx hb dL_law_1295 (lv_at hl 1 rfl) ?_
  refine lv_iconst (v := 1) hx hb dL_law_1297 (by decide) ?_
  refine lv_iadd hx hb dL_law_1298 ?_
  refine W.eq (g2 := F0 m 1299 ls [.int 1, .ref b, .ref ma]) (by first | rfl | decide) ?_
  refine va_sld hx hb hX hbl hbA hh.2.2.2.1 (by unfold vp_in; decide) dL_law_1299 ?_
  refine W.eq (g2 := F0 m 1300 ls [.int (xs 1), .ref ma]) rfl ?_
  refine k_callV (C := RX11) (T := TX11) (N := 11) (ci := 16) (q0 := 0) (wr := [(o1, .inl (z3, 1, .inr (.inl (fun _ => 0))))]) (rest := []) (own := RL) ⟨hx, hb, hml, hown, hts⟩ (c_X11_loudness l hst D e0 ma 0 m1 m2 m3 m4 m5 m6 m7 m8 ((xs 1)) ) (cwV 1 hts gl_V_c_X11_loudness rfl rfl rfl (by decide +kernel) ⟨Nat.le_of_ble_eq_true rfl, Nat.le_of_ble_eq_true rfl⟩) hh rfl rfl [0, 1] [2] [] rfl rfl rfl rfl (by decide) rfl rfl hl rfl (Nat.le_of_ble_eq_true rfl) dL_law_1300 ⟨Nat.le_of_ble_eq_true rfl, (Nat.le_of_ble_eq_true rfl)⟩ (fun _ _ _ _ _ h => h.elim) (fun v w ty1 H locs hp hh => ?_)
  obtain ⟨rfl, rfl, rfl⟩ := hp
  have hh : kH D kStr e0 A s H [(o1, .inl (z3, 1, .inr (.inl (fun _ => 0)))), (ma, .inr (16, [.int 1, .ref m1, .ref m2, .ref m3, .ref m4, .ref m5, .ref m6, .ref m7, .ref m8, .int 0, .int 0]))] [(z3, .long), (z3, .long)] _ := hh
  refine W.eq (g2 := F0 m 1303 ls [.int 0]) (by first | rfl | decide) ?_
  refine lv_istore (lv' := [(7, .int 0), (6, .int 1), (5, .int 0), (4, .ref o2), (3, .ref o1), (2, .ref ma), (1, .ref xa), (0, .ref b)]) hx hb dL_law_1303 hl (by decide) rfl (fun ls hl => ?_)
  refine lv_aload_n hx hb dL_law_1305 rfl (lv_at hl 5 rfl) ?_
  refine k_callV (C := RX11) (T := TX11) (N := 11) (ci := 16) (q0 := 1) (wr := [(o1, .inl (z3, 1, .inr (.inl (fun _ => 0))))]) (rest := []) (own := RL) ⟨hx, hb, hml, hown, hts⟩ (c_X11_thrown l hst D e0 ma 1 m1 m2 m3 m4 m5 m6 m7 m8 ) (cwV 0 hts gl_V_c_X11_thrown rfl rfl rfl (by decide +kernel) ⟨Nat.le_of_ble_eq_true rfl, Nat.le_of_ble_eq_true rfl⟩) hh rfl rfl [1] [0] [] rfl rfl rfl rfl (by decide) rfl rfl hl rfl (Nat.le_of_ble_eq_true rfl) dL_law_1306 ⟨Nat.le_of_ble_eq_true rfl, (Nat.le_of_ble_eq_true rfl)⟩ (fun _ _ _ _ _ h => h.elim) (fun v w ty1 H locs hp hh => ?_)
  obtain ⟨rfl, rfl, rfl⟩ := hp
  have hh : kH D kStr e0 A s H [(o1, .inl (z3, 1, .inr (.inl (fun _ => 0)))), (ma, .inr (16, [.int 1, .ref m1, .ref m2, .ref m3, .ref m4, .ref m5, .ref m6, .ref m7, .ref m8, .int 0, .int 0]))] [(z3, .long), (z3, .long)] _ := hh
  refine W.eq (g2 := F0 m 1309 ls [.int 1]) (by first | rfl | decide) ?_
  refine lv_iload hx hb dL_law_1309 (lv_at hl 1 rfl) ?_
  refine lv_icmp_eq (tgt := 1316) hx hb dL_law_1311 (by decide) (fun _ => ?_) (fun c_1311 => absurd (by decide) c_1311)
  refine lv_iload hx hb dL_law_1316 (lv_at hl 1 rfl) ?_
  refine lv_if_ne (tgt := 1333) hx hb dL_law_1318 (by decide) (fun _ => ?_) (fun c_1318 => absurd c_1318 (by decide))
  refine lv_goto (tgt := 3429) hx hb dL_law_1333 (by decide) ?_
  refine W.widen (k := 1000) (n := 100000) (Nat.le_of_ble_eq_true rfl) (Nat.le_of_ble_eq_true rfl) ?_
  exact kk _ _ _ hh.2.2.2.1 (lv_sub hl [7, 2] rfl)
set_option maxHeartbeats 4000000 in
set_option maxRecDepth 100000 in
theorem law_16 {p : Program} {l : Launch} {e : Env} {s : State} {m : MethodId} {below : List Frame} {meth : Method} {c : Code} {Q : State → Prop} {b : Nat} {xs : Nat → Int32} {D : va_G} {e0 : kE} {A : Nat → Prop} (hst : l.stackTraces = false) (hx : p.tables.exec = Jvm.exec) (hb : c.code = cL_law) (hml : c.maxLocals = 9) (hts : ∀ w ∈ lw_tbl, w.before #[Value.ref b] s = true) (hown : s.vm.findClass RL = some m.cls) (hX : va_X b 5 xs s s.heap) (hbl : b < s.heap.size) (hbA : ¬ A b) {xa x1 x2 x3 x4 x5 g1 g2 g3 g4 h1 h2 h3 h4 h5 ma m1 m2 m3 m4 m5 m6 m7 m8 o1 o2 : Nat} {z1 z2 z3 z4 : ClassId}  {H : Heap} {locs : List Loc} {ls : Array Slot} (hh : kH D kStr e0 A s H (lwW e0 xa x1 x2 x3 x4 x5 g1 g2 g3 g4 h1 h2 h3 h4 h5 ma m1 m2 m3 m4 m5 m6 m7 m8 o1 o2 z1 z2 z3 z4) (lwT z1 z2 z3 z4) locs) (hl : lv_has ls 9 (lwL b xa ma o1 o2)) (kk : lwK p l e s m below meth c Q b A) : W p l e room_1 s m #[Value.ref b] below meth c H locs 100 10000 Q (F0 m 1336 ls []) := by
  have hh : kH D kStr e0 A s H [(xa, .inr (11, [.ref x1, .int 0, .ref x2, .int 0, .ref x3, .ref x4, .ref x5, .int 0])), (ma, .inr (16, [.int 0, .ref m1, .ref m2, .ref m3, .ref m4, .ref m5, .ref m6, .ref m7, .ref m8, .int 0, .int 0])), (m2, .inr (4, [.int 0, .ref e0.1, .int 0])), (o1, .inl (z3, 1, .inr (.inl (fun _ => 0))))] [(z3, .long)] _ := hh.sub [0, 5, 7, 14] [2] rfl rfl rfl
  have hl : lv_has ls 9 [(5, .int 0), (4, .ref o2), (3, .ref o1), (2, .ref ma), (1, .ref xa), (0, .ref b)] := hl
  refine lv_aload_n hx hb dL_law_1336 rfl (lv_at hl 4 rfl) ?_
  refine lv_aload_n hx hb dL_law_1337 rfl (lv_at hl 5 rfl) ?_
  refine lv_iload hx hb dL_law_1338 (lv_at hl 0 rfl) ?_
  refine lv_iconst (v := 1) hx hb dL_law_1340 (by decide) ?_
  refine lv_iadd hx hb dL_law_1341 ?_
  refine W.eq (g2 := F0 m 1342 ls [.int 1, .ref b, .ref xa]) (by first | rfl | decide) ?_
  refine va_sld hx hb hX hbl hbA hh.2.2.2.1 (by unfold vp_in; decide) dL_law_1342 ?_
  refine W.eq (g2 := F0 m 1343 ls [.int (xs 1), .ref xa]) rfl ?_
  refine lv_aload_n hx hb dL_law_1343 rfl (lv_at hl 2 rfl) ?_
  refine k_callSX (wr := [(ma, .inr (16, [.int 0, .ref m1, .ref m2, .ref m3, .ref m4, .ref m5, .ref m6, .ref m7, .ref m8, .int 0, .int 0])), (m2, .inr (4, [.int 0, .ref e0.1, .int 0]))]) (rest := []) (own := RL) ⟨hx, hb, hml, hown, hts⟩ (c_L_peak l hst D e0 xa x1 x2 x3 x4 x5 ((xs 1)) o1 z3 ((fun _ => 0)) ) (vx_cwSW 3 hts gl_S_c_L_peak rfl rfl rfl (by decide +kernel) ⟨Nat.le_of_ble_eq_true rfl, Nat.le_of_ble_eq_true rfl⟩) hh [0, 3] [1, 2] [0] rfl rfl rfl rfl (by decide) rfl rfl hl rfl (Nat.le_of_ble_eq_true rfl) dL_law_1344 ⟨Nat.le_of_ble_eq_true rfl, (Nat.le_of_ble_eq_true rfl)⟩ (fun _ _ _ _ _ h => h.elim) (fun v w ty1 H locs hp hh => ?_)
  obtain ⟨rfl, rfl, rfl⟩ := hp
  have hh : kH D kStr e0 A s H [(ma, .inr (16, [.int 0, .ref m1, .ref m2, .ref m3, .ref m4, .ref m5, .ref m6, .ref m7, .ref m8, .int 0, .int 0])), (m2, .inr (4, [.int 0, .ref e0.1, .int 0])), (o1, .inl (z3, 1, .inr (.inl (fun _ => 0))))] [(z3, .long), (z3, .long)] _ := hh
  refine W.eq (g2 := F0 m 1347 ls [.int 1]) (by first | rfl | decide) ?_
  refine lv_istore (lv' := [(6, .int 1), (5, .int 0), (4, .ref o2), (3, .ref o1), (2, .ref ma), (1, .ref xa), (0, .ref b)]) hx hb dL_law_1347 hl (by decide) rfl (fun ls hl => ?_)
  refine lv_aload_n hx hb dL_law_1349 rfl (lv_at hl 4 rfl) ?_
  refine lv_aload_n hx hb dL_law_1350 rfl (lv_at hl 6 rfl) ?_
  refine lv_iload hx hb dL_law_1351 (lv_at hl 1 rfl) ?_
  refine lv_iconst (v := 1) hx hb dL_law_1353 (by decide) ?_
  refine lv_iadd hx hb dL_law_1354 ?_
  refine W.eq (g2 := F0 m 1355 ls [.int 1, .ref b, .ref ma]) (by first | rfl | decide) ?_
  refine va_sld hx hb hX hbl hbA hh.2.2.2.1 (by unfold vp_in; decide) dL_law_1355 ?_
  refine W.eq (g2 := F0 m 1356 ls [.int (xs 1), .ref ma]) rfl ?_
  refine k_callV (C := RX11) (T := TX11) (N := 11) (ci := 16) (q0 := 0) (wr := [(o1, .inl (z3, 1, .inr (.inl (fun _ => 0))))]) (rest := []) (own := RL) ⟨hx, hb, hml, hown, hts⟩ (c_X11_peak l hst D e0 ma 0 m1 m2 m3 m4 m5 m6 m7 m8 ((xs 1)) ) (cwV 1 hts gl_V_c_X11_peak rfl rfl rfl (by decide +kernel) ⟨Nat.le_of_ble_eq_true rfl, Nat.le_of_ble_eq_true rfl⟩) hh rfl rfl [0, 1] [2] [] rfl rfl rfl rfl (by decide) rfl rfl hl rfl (Nat.le_of_ble_eq_true rfl) dL_law_1356 ⟨Nat.le_of_ble_eq_true rfl, (Nat.le_of_ble_eq_true rfl)⟩ (fun _ _ _ _ _ h => h.elim) (fun v w ty1 H locs hp hh => ?_)
  obtain ⟨rfl, rfl, rfl⟩ := hp
  have hh : kH D kStr e0 A s H [(o1, .inl (z3, 1, .inr (.inl (fun _ => 0)))), (ma, .inr (16, [.int 1, .ref m1, .ref m2, .ref m3, .ref m4, .ref m5, .ref m6, .ref m7, .ref m8, .int 0, .int 0]))] [(z3, .long), (z3, .long)] _ := hh
  refine W.eq (g2 := F0 m 1359 ls [.int 0]) (by first | rfl | decide) ?_
  refine lv_istore (lv' := [(7, .int 0), (6, .int 1), (5, .int 0), (4, .ref o2), (3, .ref o1), (2, .ref ma), (1, .ref xa), (0, .ref b)]) hx hb dL_law_1359 hl (by decide) rfl (fun ls hl => ?_)
  refine lv_aload_n hx hb dL_law_1361 rfl (lv_at hl 5 rfl) ?_
  refine k_callV (C := RX11) (T := TX11) (N := 11) (ci := 16) (q0 := 1) (wr := [(o1, .inl (z3, 1, .inr (.inl (fun _ => 0))))]) (rest := []) (own := RL) ⟨hx, hb, hml, hown, hts⟩ (c_X11_thrown l hst D e0 ma 1 m1 m2 m3 m4 m5 m6 m7 m8 ) (cwV 0 hts gl_V_c_X11_thrown rfl rfl rfl (by decide +kernel) ⟨Nat.le_of_ble_eq_true rfl, Nat.le_of_ble_eq_true rfl⟩) hh rfl rfl [1] [0] [] rfl rfl rfl rfl (by decide) rfl rfl hl rfl (Nat.le_of_ble_eq_true rfl) dL_law_1362 ⟨Nat.le_of_ble_eq_true rfl, (Nat.le_of_ble_eq_true rfl)⟩ (fun _ _ _ _ _ h => h.elim) (fun v w ty1 H locs hp hh => ?_)
  obtain ⟨rfl, rfl, rfl⟩ := hp
  have hh : kH D kStr e0 A s H [(o1, .inl (z3, 1, .inr (.inl (fun _ => 0)))), (ma, .inr (16, [.int 1, .ref m1, .ref m2, .ref m3, .ref m4, .ref m5, .ref m6, .ref m7, .ref m8, .int 0, .int 0]))] [(z3, .long), (z3, .long)] _ := hh
  refine W.eq (g2 := F0 m 1365 ls [.int 1]) (by first | rfl | decide) ?_
  refine lv_iload hx hb dL_law_1365 (lv_at hl 1 rfl) ?_
  refine lv_icmp_eq (tgt := 1372) hx hb dL_law_1367 (by decide) (fun _ => ?_) (fun c_1367 => absurd (by decide) c_1367)
  refine lv_iload hx hb dL_law_1372 (lv_at hl 1 rfl) ?_
  refine lv_if_ne (tgt := 1389) hx hb dL_law_1374 (by decide) (fun _ => ?_) (fun c_1374 => absurd c_1374 (by decide))
  refine lv_goto (tgt := 3429) hx hb dL_law_1389 (by decide) ?_
  refine W.widen (k := 1000) (n := 100000) (Nat.le_of_ble_eq_true rfl) (Nat.le_of_ble_eq_true rfl) ?_
  exact kk _ _ _ hh.2.2.2.1 (lv_sub hl [7, 2] rfl)
set_option maxHeartbeats 4000000 in
set_option maxRecDepth 100000 in
theorem law_17 {p : Program} {l : Launch} {e : Env} {s : State} {m : MethodId} {below : List Frame} {meth : Method} {c : Code} {Q : State → Prop} {b : Nat} {xs : Nat → Int32} {D : va_G} {e0 : kE} {A : Nat → Prop} (hst : l.stackTraces = false) (hx : p.tables.exec = Jvm.exec) (hb : c.code = cL_law) (hml : c.maxLocals = 9) (hts : ∀ w ∈ lw_tbl, w.before #[Value.ref b] s = true) (hown : s.vm.findClass RL = some m.cls) (hX : va_X b 5 xs s s.heap) (hbl : b < s.heap.size) (hbA : ¬ A b) {xa x1 x2 x3 x4 x5 g1 g2 g3 g4 h1 h2 h3 h4 h5 ma m1 m2 m3 m4 m5 m6 m7 m8 o1 o2 : Nat} {z1 z2 z3 z4 : ClassId}  {H : Heap} {locs : List Loc} {ls : Array Slot} (hh : kH D kStr e0 A s H (lwW e0 xa x1 x2 x3 x4 x5 g1 g2 g3 g4 h1 h2 h3 h4 h5 ma m1 m2 m3 m4 m5 m6 m7 m8 o1 o2 z1 z2 z3 z4) (lwT z1 z2 z3 z4) locs) (hl : lv_has ls 9 (lwL b xa ma o1 o2)) (kk : lwK p l e s m below meth c Q b A) : W p l e room_1 s m #[Value.ref b] below meth c H locs 100 10000 Q (F0 m 1392 ls []) := by
  have hh : kH D kStr e0 A s H [(xa, .inr (11, [.ref x1, .int 0, .ref x2, .int 0, .ref x3, .ref x4, .ref x5, .int 0])), (ma, .inr (16, [.int 0, .ref m1, .ref m2, .ref m3, .ref m4, .ref m5, .ref m6, .ref m7, .ref m8, .int 0, .int 0])), (m2, .inr (4, [.int 0, .ref e0.1, .int 0])), (o1, .inl (z3, 1, .inr (.inl (fun _ => 0))))] [(z3, .long)] _ := hh.sub [0, 5, 7, 14] [2] rfl rfl rfl
  have hl : lv_has ls 9 [(5, .int 0), (4, .ref o2), (3, .ref o1), (2, .ref ma), (1, .ref xa), (0, .ref b)] := hl
  refine lv_aload_n hx hb dL_law_1392 rfl (lv_at hl 4 rfl) ?_
  refine lv_aload_n hx hb dL_law_1393 rfl (lv_at hl 5 rfl) ?_
  refine lv_iload hx hb dL_law_1394 (lv_at hl 0 rfl) ?_
  refine lv_iconst (v := 1) hx hb dL_law_1396 (by decide) ?_
  refine lv_iadd hx hb dL_law_1397 ?_
  refine W.eq (g2 := F0 m 1398 ls [.int 1, .ref b, .ref xa]) (by first | rfl | decide) ?_
  refine va_sld hx hb hX hbl hbA hh.2.2.2.1 (by unfold vp_in; decide) dL_law_1398 ?_
  refine W.eq (g2 := F0 m 1399 ls [.int (xs 1), .ref xa]) rfl ?_
  refine lv_aload_n hx hb dL_law_1399 rfl (lv_at hl 5 rfl) ?_
  refine lv_iload hx hb dL_law_1400 (lv_at hl 0 rfl) ?_
  refine lv_iconst (v := 2) hx hb dL_law_1402 (by decide) ?_
  refine lv_iadd hx hb dL_law_1403 ?_
  refine W.eq (g2 := F0 m 1404 ls [.int 2, .ref b, .int (xs 1), .ref xa]) (by first | rfl | decide) ?_
  refine va_sld hx hb hX hbl hbA hh.2.2.2.1 (by unfold vp_in; decide) dL_law_1404 ?_
  refine W.eq (g2 := F0 m 1405 ls [.int (xs 2), .int (xs 1), .ref xa]) rfl ?_
  refine lv_aload_n hx hb dL_law_1405 rfl (lv_at hl 2 rfl) ?_
  refine k_callSX (wr := [(ma, .inr (16, [.int 0, .ref m1, .ref m2, .ref m3, .ref m4, .ref m5, .ref m6, .ref m7, .ref m8, .int 0, .int 0])), (m2, .inr (4, [.int 0, .ref e0.1, .int 0]))]) (rest := []) (own := RL) ⟨hx, hb, hml, hown, hts⟩ (c_L_add l hst D e0 xa x1 x2 x3 x4 x5 ((xs 1)) ((xs 2)) o1 z3 ((fun _ => 0)) ) (vx_cwSW 4 hts gl_S_c_L_add rfl rfl rfl (by decide +kernel) ⟨Nat.le_of_ble_eq_true rfl, Nat.le_of_ble_eq_true rfl⟩) hh [0, 3] [1, 2] [0] rfl rfl rfl rfl (by decide) rfl rfl hl rfl (Nat.le_of_ble_eq_true rfl) dL_law_1406 ⟨Nat.le_of_ble_eq_true rfl, (Nat.le_of_ble_eq_true rfl)⟩ (fun _ _ _ _ _ h => h.elim) (fun v w ty1 H locs hp hh => ?_)
  obtain ⟨rfl, rfl, rfl⟩ := hp
  have hh : kH D kStr e0 A s H [(ma, .inr (16, [.int 0, .ref m1, .ref m2, .ref m3, .ref m4, .ref m5, .ref m6, .ref m7, .ref m8, .int 0, .int 0])), (m2, .inr (4, [.int 0, .ref e0.1, .int 0])), (o1, .inl (z3, 1, .inr (.inl (fun _ => 0))))] [(z3, .long), (z3, .long)] _ := hh
  refine W.eq (g2 := F0 m 1409 ls [.int 1]) (by first | rfl | decide) ?_
  refine lv_istore (lv' := [(6, .int 1), (5, .int 0), (4, .ref o2), (3, .ref o1), (2, .ref ma), (1, .ref xa), (0, .ref b)]) hx hb dL_law_1409 hl (by decide) rfl (fun ls hl => ?_)
  refine lv_aload_n hx hb dL_law_1411 rfl (lv_at hl 4 rfl) ?_
  refine lv_aload_n hx hb dL_law_1412 rfl (lv_at hl 6 rfl) ?_
  refine lv_iload hx hb dL_law_1413 (lv_at hl 1 rfl) ?_
  refine lv_iconst (v := 1) hx hb dL_law_1415 (by decide) ?_
  refine lv_iadd hx hb dL_law_1416 ?_
  refine W.eq (g2 := F0 m 1417 ls [.int 1, .ref b, .ref ma]) (by first | rfl | decide) ?_
  refine va_sld hx hb hX hbl hbA hh.2.2.2.1 (by unfold vp_in; decide) dL_law_1417 ?_
  refine W.eq (g2 := F0 m 1418 ls [.int (xs 1), .ref ma]) rfl ?_
  refine lv_aload_n hx hb dL_law_1418 rfl (lv_at hl 6 rfl) ?_
  refine lv_iload hx hb dL_law_1419 (lv_at hl 1 rfl) ?_
  refine lv_iconst (v := 2) hx hb dL_law_1421 (by decide) ?_
  refine lv_iadd hx hb dL_law_1422 ?_
  refine W.eq (g2 := F0 m 1423 ls [.int 2, .ref b, .int (xs 1), .ref ma]) (by first | rfl | decide) ?_
  refine va_sld hx hb hX hbl hbA hh.2.2.2.1 (by unfold vp_in; decide) dL_law_1423 ?_
  refine W.eq (g2 := F0 m 1424 ls [.int (xs 2), .int (xs 1), .ref ma]) rfl ?_
  refine k_callV (C := RX11) (T := TX11) (N := 11) (ci := 16) (q0 := 0) (wr := [(o1, .inl (z3, 1, .inr (.inl (fun _ => 0))))]) (rest := []) (own := RL) ⟨hx, hb, hml, hown, hts⟩ (c_X11_add l hst D e0 ma 0 m1 m2 m3 m4 m5 m6 m7 m8 ((xs 1)) ((xs 2)) ) (cwV 2 hts gl_V_c_X11_add rfl rfl rfl (by decide +kernel) ⟨Nat.le_of_ble_eq_true rfl, Nat.le_of_ble_eq_true rfl⟩) hh rfl rfl [0, 1] [2] [] rfl rfl rfl rfl (by decide) rfl rfl hl rfl (Nat.le_of_ble_eq_true rfl) dL_law_1424 ⟨Nat.le_of_ble_eq_true rfl, (Nat.le_of_ble_eq_true rfl)⟩ (fun _ _ _ _ _ h => h.elim) (fun v w ty1 H locs hp hh => ?_)
  obtain ⟨rfl, rfl, rfl⟩ := hp
  have hh : kH D kStr e0 A s H [(o1, .inl (z3, 1, .inr (.inl (fun _ => 0)))), (ma, .inr (16, [.int 1, .ref m1, .ref m2, .ref m3, .ref m4, .ref m5, .ref m6, .ref m7, .ref m8, .int 0, .int 0]))] [(z3, .long), (z3, .long)] _ := hh
  refine W.eq (g2 := F0 m 1427 ls [.int 0]) (by first | rfl | decide) ?_
  refine lv_istore (lv' := [(7, .int 0), (6, .int 1), (5, .int 0), (4, .ref o2), (3, .ref o1), (2, .ref ma), (1, .ref xa), (0, .ref b)]) hx hb dL_law_1427 hl (by decide) rfl (fun ls hl => ?_)
  refine lv_aload_n hx hb dL_law_1429 rfl (lv_at hl 5 rfl) ?_
  refine k_callV (C := RX11) (T := TX11) (N := 11) (ci := 16) (q0 := 1) (wr := [(o1, .inl (z3, 1, .inr (.inl (fun _ => 0))))]) (rest := []) (own := RL) ⟨hx, hb, hml, hown, hts⟩ (c_X11_thrown l hst D e0 ma 1 m1 m2 m3 m4 m5 m6 m7 m8 ) (cwV 0 hts gl_V_c_X11_thrown rfl rfl rfl (by decide +kernel) ⟨Nat.le_of_ble_eq_true rfl, Nat.le_of_ble_eq_true rfl⟩) hh rfl rfl [1] [0] [] rfl rfl rfl rfl (by decide) rfl rfl hl rfl (Nat.le_of_ble_eq_true rfl) dL_law_1430 ⟨Nat.le_of_ble_eq_true rfl, (Nat.le_of_ble_eq_true rfl)⟩ (fun _ _ _ _ _ h => h.elim) (fun v w ty1 H locs hp hh => ?_)
  obtain ⟨rfl, rfl, rfl⟩ := hp
  have hh : kH D kStr e0 A s H [(o1, .inl (z3, 1, .inr (.inl (fun _ => 0)))), (ma, .inr (16, [.int 1, .ref m1, .ref m2, .ref m3, .ref m4, .ref m5, .ref m6, .ref m7, .ref m8, .int 0, .int 0]))] [(z3, .long), (z3, .long)] _ := hh
  refine W.eq (g2 := F0 m 1433 ls [.int 1]) (by first | rfl | decide) ?_
  refine lv_iload hx hb dL_law_1433 (lv_at hl 1 rfl) ?_
  refine lv_icmp_eq (tgt := 1440) hx hb dL_law_1435 (by decide) (fun _ => ?_) (fun c_1435 => absurd (by decide) c_1435)
  refine lv_iload hx hb dL_law_1440 (lv_at hl 1 rfl) ?_
  refine lv_if_ne (tgt := 1457) hx hb dL_law_1442 (by decide) (fun _ => ?_) (fun c_1442 => absurd c_1442 (by decide))
  refine lv_goto (tgt := 3429) hx hb dL_law_1457 (by decide) ?_
  refine W.widen (k := 1000) (n := 100000) (Nat.le_of_ble_eq_true rfl) (Nat.le_of_ble_eq_true rfl) ?_
  exact kk _ _ _ hh.2.2.2.1 (lv_sub hl [7, 2] rfl)
set_option maxHeartbeats 4000000 in
set_option maxRecDepth 100000 in
theorem law_19 {p : Program} {l : Launch} {e : Env} {s : State} {m : MethodId} {below : List Frame} {meth : Method} {c : Code} {Q : State → Prop} {b : Nat} {xs : Nat → Int32} {D : va_G} {e0 : kE} {A : Nat → Prop} (hst : l.stackTraces = false) (hx : p.tables.exec = Jvm.exec) (hb : c.code = cL_law) (hml : c.maxLocals = 9) (hts : ∀ w ∈ lw_tbl, w.before #[Value.ref b] s = true) (hown : s.vm.findClass RL = some m.cls) (hX : va_X b 5 xs s s.heap) (hbl : b < s.heap.size) (hbA : ¬ A b) {xa x1 x2 x3 x4 x5 g1 g2 g3 g4 h1 h2 h3 h4 h5 ma m1 m2 m3 m4 m5 m6 m7 m8 o1 o2 : Nat} {z1 z2 z3 z4 : ClassId}  {H : Heap} {locs : List Loc} {ls : Array Slot} (hh : kH D kStr e0 A s H (lwW e0 xa x1 x2 x3 x4 x5 g1 g2 g3 g4 h1 h2 h3 h4 h5 ma m1 m2 m3 m4 m5 m6 m7 m8 o1 o2 z1 z2 z3 z4) (lwT z1 z2 z3 z4) locs) (hl : lv_has ls 9 (lwL b xa ma o1 o2)) (kk : lwK p l e s m below meth c Q b A) : W p l e room_1 s m #[Value.ref b] below meth c H locs 100 10000 Q (F0 m 1551 ls []) := by
  have hh : kH D kStr e0 A s H [(xa, .inr (11, [.ref x1, .int 0, .ref x2, .int 0, .ref x3, .ref x4, .ref x5, .int 0])), (x3, .inr (9, [.ref g1, .int 0, .ref g2, .int 0, .ref g3, .ref g4])), (ma, .inr (16, [.int 0, .ref m1, .ref m2, .ref m3, .ref m4, .ref m5, .ref m6, .ref m7, .ref m8, .int 0, .int 0])), (m3, .inr (4, [.int 0, .ref e0.1, .int 0])), (o1, .inl (z3, 1, .inr (.inl (fun _ => 0))))] [(z3, .long)] _ := hh.sub [0, 1, 5, 8, 14] [2] rfl rfl rfl
  have hl : lv_has ls 9 [(5, .int 0), (4, .ref o2), (3, .ref o1), (2, .ref ma), (1, .ref xa), (0, .ref b)] := hl
  refine lv_aload_n hx hb dL_law_1551 rfl (lv_at hl 4 rfl) ?_
  refine lv_aload_n hx hb dL_law_1552 rfl (lv_at hl 5 rfl) ?_
  refine lv_iload hx hb dL_law_1553 (lv_at hl 0 rfl) ?_
  refine lv_iconst (v := 1) hx hb dL_law_1555 (by decide) ?_
  refine lv_iadd hx hb dL_law_1556 ?_
  refine W.eq (g2 := F0 m 1557 ls [.int 1, .ref b, .ref xa]) (by first | rfl | decide) ?_
  refine va_sld hx hb hX hbl hbA hh.2.2.2.1 (by unfold vp_in; decide) dL_law_1557 ?_
  refine W.eq (g2 := F0 m 1558 ls [.int (xs 1), .ref xa]) rfl ?_
  refine lv_aload_n hx hb dL_law_1558 rfl (lv_at hl 5 rfl) ?_
  refine lv_iload hx hb dL_law_1559 (lv_at hl 0 rfl) ?_
  refine lv_iconst (v := 2) hx hb dL_law_1561 (by decide) ?_
  refine lv_iadd hx hb dL_law_1562 ?_
  refine W.eq (g2 := F0 m 1563 ls [.int 2, .ref b, .int (xs 1), .ref xa]) (by first | rfl | decide) ?_
  refine va_sld hx hb hX hbl hbA hh.2.2.2.1 (by unfold vp_in; decide) dL_law_1563 ?_
  refine W.eq (g2 := F0 m 1564 ls [.int (xs 2), .int (xs 1), .ref xa]) rfl ?_
  refine lv_aload_n hx hb dL_law_1564 rfl (lv_at hl 2 rfl) ?_
  refine k_callSX (wr := [(ma, .inr (16, [.int 0, .ref m1, .ref m2, .ref m3, .ref m4, .ref m5, .ref m6, .ref m7, .ref m8, .int 0, .int 0])), (m3, .inr (4, [.int 0, .ref e0.1, .int 0]))]) (rest := []) (own := RL) ⟨hx, hb, hml, hown, hts⟩ (c_L_replace l hst D e0 xa x1 x2 x3 x4 x5 g1 g2 g3 g4 ((xs 1)) ((xs 2)) o1 z3 ((fun _ => 0)) ) (vx_cwSW 4 hts gl_S_c_L_replace rfl rfl rfl (by decide +kernel) ⟨Nat.le_of_ble_eq_true rfl, Nat.le_of_ble_eq_true rfl⟩) hh [0, 1, 4] [2, 3] [0] rfl rfl rfl rfl (by decide) rfl rfl hl rfl (Nat.le_of_ble_eq_true rfl) dL_law_1565 ⟨Nat.le_of_ble_eq_true rfl, (Nat.le_of_ble_eq_true rfl)⟩ (fun _ _ _ _ _ h => h.elim) (fun v w ty1 H locs hp hh => ?_)
  obtain ⟨rfl, rfl, rfl⟩ := hp
  have hh : kH D kStr e0 A s H [(ma, .inr (16, [.int 0, .ref m1, .ref m2, .ref m3, .ref m4, .ref m5, .ref m6, .ref m7, .ref m8, .int 0, .int 0])), (m3, .inr (4, [.int 0, .ref e0.1, .int 0])), (o1, .inl (z3, 1, .inr (.inl (fun _ => 0))))] [(z3, .long), (z3, .long)] _ := hh
  refine W.eq (g2 := F0 m 1568 ls [.int 1]) (by first | rfl | decide) ?_
  refine lv_istore (lv' := [(6, .int 1), (5, .int 0), (4, .ref o2), (3, .ref o1), (2, .ref ma), (1, .ref xa), (0, .ref b)]) hx hb dL_law_1568 hl (by decide) rfl (fun ls hl => ?_)
  refine lv_aload_n hx hb dL_law_1570 rfl (lv_at hl 4 rfl) ?_
  refine lv_aload_n hx hb dL_law_1571 rfl (lv_at hl 6 rfl) ?_
  refine lv_iload hx hb dL_law_1572 (lv_at hl 1 rfl) ?_
  refine lv_iconst (v := 1) hx hb dL_law_1574 (by decide) ?_
  refine lv_iadd hx hb dL_law_1575 ?_
  refine W.eq (g2 := F0 m 1576 ls [.int 1, .ref b, .ref ma]) (by first | rfl | decide) ?_
  refine va_sld hx hb hX hbl hbA hh.2.2.2.1 (by unfold vp_in; decide) dL_law_1576 ?_
  refine W.eq (g2 := F0 m 1577 ls [.int (xs 1), .ref ma]) rfl ?_
  refine lv_aload_n hx hb dL_law_1577 rfl (lv_at hl 6 rfl) ?_
  refine lv_iload hx hb dL_law_1578 (lv_at hl 1 rfl) ?_
  refine lv_iconst (v := 2) hx hb dL_law_1580 (by decide) ?_
  refine lv_iadd hx hb dL_law_1581 ?_
  refine W.eq (g2 := F0 m 1582 ls [.int 2, .ref b, .int (xs 1), .ref ma]) (by first | rfl | decide) ?_
  refine va_sld hx hb hX hbl hbA hh.2.2.2.1 (by unfold vp_in; decide) dL_law_1582 ?_
  refine W.eq (g2 := F0 m 1583 ls [.int (xs 2), .int (xs 1), .ref ma]) rfl ?_
  refine k_callV (C := RX11) (T := TX11) (N := 11) (ci := 16) (q0 := 0) (wr := [(o1, .inl (z3, 1, .inr (.inl (fun _ => 0))))]) (rest := []) (own := RL) ⟨hx, hb, hml, hown, hts⟩ (c_X11_replace l hst D e0 ma 0 m1 m2 m3 m4 m5 m6 m7 m8 ((xs 1)) ((xs 2)) ) (cwV 2 hts gl_V_c_X11_replace rfl rfl rfl (by decide +kernel) ⟨Nat.le_of_ble_eq_true rfl, Nat.le_of_ble_eq_true rfl⟩) hh rfl rfl [0, 1] [2] [] rfl rfl rfl rfl (by decide) rfl rfl hl rfl (Nat.le_of_ble_eq_true rfl) dL_law_1583 ⟨Nat.le_of_ble_eq_true rfl, (Nat.le_of_ble_eq_true rfl)⟩ (fun _ _ _ _ _ h => h.elim) (fun v w ty1 H locs hp hh => ?_)
  obtain ⟨rfl, rfl, rfl⟩ := hp
  have hh : kH D kStr e0 A s H [(o1, .inl (z3, 1, .inr (.inl (fun _ => 0)))), (ma, .inr (16, [.int 1, .ref m1, .ref m2, .ref m3, .ref m4, .ref m5, .ref m6, .ref m7, .ref m8, .int 0, .int 0]))] [(z3, .long), (z3, .long)] _ := hh
  refine W.eq (g2 := F0 m 1586 ls [.int 0]) (by first | rfl | decide) ?_
  refine lv_istore (lv' := [(7, .int 0), (6, .int 1), (5, .int 0), (4, .ref o2), (3, .ref o1), (2, .ref ma), (1, .ref xa), (0, .ref b)]) hx hb dL_law_1586 hl (by decide) rfl (fun ls hl => ?_)
  refine lv_aload_n hx hb dL_law_1588 rfl (lv_at hl 5 rfl) ?_
  refine k_callV (C := RX11) (T := TX11) (N := 11) (ci := 16) (q0 := 1) (wr := [(o1, .inl (z3, 1, .inr (.inl (fun _ => 0))))]) (rest := []) (own := RL) ⟨hx, hb, hml, hown, hts⟩ (c_X11_thrown l hst D e0 ma 1 m1 m2 m3 m4 m5 m6 m7 m8 ) (cwV 0 hts gl_V_c_X11_thrown rfl rfl rfl (by decide +kernel) ⟨Nat.le_of_ble_eq_true rfl, Nat.le_of_ble_eq_true rfl⟩) hh rfl rfl [1] [0] [] rfl rfl rfl rfl (by decide) rfl rfl hl rfl (Nat.le_of_ble_eq_true rfl) dL_law_1589 ⟨Nat.le_of_ble_eq_true rfl, (Nat.le_of_ble_eq_true rfl)⟩ (fun _ _ _ _ _ h => h.elim) (fun v w ty1 H locs hp hh => ?_)
  obtain ⟨rfl, rfl, rfl⟩ := hp
  have hh : kH D kStr e0 A s H [(o1, .inl (z3, 1, .inr (.inl (fun _ => 0)))), (ma, .inr (16, [.int 1, .ref m1, .ref m2, .ref m3, .ref m4, .ref m5, .ref m6, .ref m7, .ref m8, .int 0, .int 0]))] [(z3, .long), (z3, .long)] _ := hh
  refine W.eq (g2 := F0 m 1592 ls [.int 1]) (by first | rfl | decide) ?_
  refine lv_iload hx hb dL_law_1592 (lv_at hl 1 rfl) ?_
  refine lv_icmp_eq (tgt := 1599) hx hb dL_law_1594 (by decide) (fun _ => ?_) (fun c_1594 => absurd (by decide) c_1594)
  refine lv_iload hx hb dL_law_1599 (lv_at hl 1 rfl) ?_
  refine lv_if_ne (tgt := 1616) hx hb dL_law_1601 (by decide) (fun _ => ?_) (fun c_1601 => absurd c_1601 (by decide))
  refine lv_goto (tgt := 3429) hx hb dL_law_1616 (by decide) ?_
  refine W.widen (k := 1000) (n := 100000) (Nat.le_of_ble_eq_true rfl) (Nat.le_of_ble_eq_true rfl) ?_
  exact kk _ _ _ hh.2.2.2.1 (lv_sub hl [7, 2] rfl)
set_option maxHeartbeats 4000000 in
set_option maxRecDepth 100000 in
theorem law_20 {p : Program} {l : Launch} {e : Env} {s : State} {m : MethodId} {below : List Frame} {meth : Method} {c : Code} {Q : State → Prop} {b : Nat} {xs : Nat → Int32} {D : va_G} {e0 : kE} {A : Nat → Prop} (hst : l.stackTraces = false) (hx : p.tables.exec = Jvm.exec) (hb : c.code = cL_law) (hml : c.maxLocals = 9) (hts : ∀ w ∈ lw_tbl, w.before #[Value.ref b] s = true) (hown : s.vm.findClass RL = some m.cls) (hX : va_X b 5 xs s s.heap) (hbl : b < s.heap.size) (hbA : ¬ A b) {xa x1 x2 x3 x4 x5 g1 g2 g3 g4 h1 h2 h3 h4 h5 ma m1 m2 m3 m4 m5 m6 m7 m8 o1 o2 : Nat} {z1 z2 z3 z4 : ClassId}  {H : Heap} {locs : List Loc} {ls : Array Slot} (hh : kH D kStr e0 A s H (lwW e0 xa x1 x2 x3 x4 x5 g1 g2 g3 g4 h1 h2 h3 h4 h5 ma m1 m2 m3 m4 m5 m6 m7 m8 o1 o2 z1 z2 z3 z4) (lwT z1 z2 z3 z4) locs) (hl : lv_has ls 9 (lwL b xa ma o1 o2)) (kk : lwK p l e s m below meth c Q b A) : W p l e room_1 s m #[Value.ref b] below meth c H locs 100 10000 Q (F0 m 1619 ls []) := by
  have hh : kH D kStr e0 A s H [(xa, .inr (11, [.ref x1, .int 0, .ref x2, .int 0, .ref x3, .ref x4, .ref x5, .int 0])), (x3, .inr (9, [.ref g1, .int 0, .ref g2, .int 0, .ref g3, .ref g4])), (ma, .inr (16, [.int 0, .ref m1, .ref m2, .ref m3, .ref m4, .ref m5, .ref m6, .ref m7, .ref m8, .int 0, .int 0])), (m3, .inr (4, [.int 0, .ref e0.1, .int 0])), (o1, .inl (z3, 1, .inr (.inl (fun _ => 0))))] [(z3, .long)] _ := hh.sub [0, 1, 5, 8, 14] [2] rfl rfl rfl
  have hl : lv_has ls 9 [(5, .int 0), (4, .ref o2), (3, .ref o1), (2, .ref ma), (1, .ref xa), (0, .ref b)] := hl
  refine lv_aload_n hx hb dL_law_1619 rfl (lv_at hl 4 rfl) ?_
  refine lv_aload_n hx hb dL_law_1620 rfl (lv_at hl 5 rfl) ?_
  refine lv_iload hx hb dL_law_1621 (lv_at hl 0 rfl) ?_
  refine lv_iconst (v := 1) hx hb dL_law_1623 (by decide) ?_
  refine lv_iadd hx hb dL_law_1624 ?_
  refine W.eq (g2 := F0 m 1625 ls [.int 1, .ref b, .ref xa]) (by first | rfl | decide) ?_
  refine va_sld hx hb hX hbl hbA hh.2.2.2.1 (by unfold vp_in; decide) dL_law_1625 ?_
  refine W.eq (g2 := F0 m 1626 ls [.int (xs 1), .ref xa]) rfl ?_
  refine lv_aload_n hx hb dL_law_1626 rfl (lv_at hl 2 rfl) ?_
  refine k_callSX (wr := [(ma, .inr (16, [.int 0, .ref m1, .ref m2, .ref m3, .ref m4, .ref m5, .ref m6, .ref m7, .ref m8, .int 0, .int 0])), (m3, .inr (4, [.int 0, .ref e0.1, .int 0]))]) (rest := []) (own := RL) ⟨hx, hb, hml, hown, hts⟩ (c_L_startOf l hst D e0 xa x1 x2 x3 x4 x5 g1 g2 g3 g4 ((xs 1)) o1 z3 ((fun _ => 0)) ) (vx_cwSW 3 hts gl_S_c_L_startOf rfl rfl rfl (by decide +kernel) ⟨Nat.le_of_ble_eq_true rfl, Nat.le_of_ble_eq_true rfl⟩) hh [0, 1, 4] [2, 3] [0] rfl rfl rfl rfl (by decide) rfl rfl hl rfl (Nat.le_of_ble_eq_true rfl) dL_law_1627 ⟨Nat.le_of_ble_eq_true rfl, (Nat.le_of_ble_eq_true rfl)⟩ (fun _ _ _ _ _ h => h.elim) (fun v w ty1 H locs hp hh => ?_)
  obtain ⟨rfl, rfl, rfl⟩ := hp
  have hh : kH D kStr e0 A s H [(ma, .inr (16, [.int 0, .ref m1, .ref m2, .ref m3, .ref m4, .ref m5, .ref m6, .ref m7, .ref m8, .int 0, .int 0])), (m3, .inr (4, [.int 0, .ref e0.1, .int 0])), (o1, .inl (z3, 1, .inr (.inl (fun _ => 0))))] [(z3, .long), (z3, .long)] _ := hh
  refine W.eq (g2 := F0 m 1630 ls [.int 1]) (by first | rfl | decide) ?_
  refine lv_istore (lv' := [(6, .int 1), (5, .int 0), (4, .ref o2), (3, .ref o1), (2, .ref ma), (1, .ref xa), (0, .ref b)]) hx hb dL_law_1630 hl (by decide) rfl (fun ls hl => ?_)
  refine lv_aload_n hx hb dL_law_1632 rfl (lv_at hl 4 rfl) ?_
  refine lv_aload_n hx hb dL_law_1633 rfl (lv_at hl 6 rfl) ?_
  refine lv_iload hx hb dL_law_1634 (lv_at hl 1 rfl) ?_
  refine lv_iconst (v := 1) hx hb dL_law_1636 (by decide) ?_
  refine lv_iadd hx hb dL_law_1637 ?_
  refine W.eq (g2 := F0 m 1638 ls [.int 1, .ref b, .ref ma]) (by first | rfl | decide) ?_
  refine va_sld hx hb hX hbl hbA hh.2.2.2.1 (by unfold vp_in; decide) dL_law_1638 ?_
  refine W.eq (g2 := F0 m 1639 ls [.int (xs 1), .ref ma]) rfl ?_
  refine k_callV (C := RX11) (T := TX11) (N := 11) (ci := 16) (q0 := 0) (wr := [(o1, .inl (z3, 1, .inr (.inl (fun _ => 0))))]) (rest := []) (own := RL) ⟨hx, hb, hml, hown, hts⟩ (c_X11_startOf l hst D e0 ma 0 m1 m2 m3 m4 m5 m6 m7 m8 ((xs 1)) ) (cwV 1 hts gl_V_c_X11_startOf rfl rfl rfl (by decide +kernel) ⟨Nat.le_of_ble_eq_true rfl, Nat.le_of_ble_eq_true rfl⟩) hh rfl rfl [0, 1] [2] [] rfl rfl rfl rfl (by decide) rfl rfl hl rfl (Nat.le_of_ble_eq_true rfl) dL_law_1639 ⟨Nat.le_of_ble_eq_true rfl, (Nat.le_of_ble_eq_true rfl)⟩ (fun _ _ _ _ _ h => h.elim) (fun v w ty1 H locs hp hh => ?_)
  obtain ⟨rfl, rfl, rfl⟩ := hp
  have hh : kH D kStr e0 A s H [(o1, .inl (z3, 1, .inr (.inl (fun _ => 0)))), (ma, .inr (16, [.int 1, .ref m1, .ref m2, .ref m3, .ref m4, .ref m5, .ref m6, .ref m7, .ref m8, .int 0, .int 0]))] [(z3, .long), (z3, .long)] _ := hh
  refine W.eq (g2 := F0 m 1642 ls [.int 0]) (by first | rfl | decide) ?_
  refine lv_istore (lv' := [(7, .int 0), (6, .int 1), (5, .int 0), (4, .ref o2), (3, .ref o1), (2, .ref ma), (1, .ref xa), (0, .ref b)]) hx hb dL_law_1642 hl (by decide) rfl (fun ls hl => ?_)
  refine lv_aload_n hx hb dL_law_1644 rfl (lv_at hl 5 rfl) ?_
  refine k_callV (C := RX11) (T := TX11) (N := 11) (ci := 16) (q0 := 1) (wr := [(o1, .inl (z3, 1, .inr (.inl (fun _ => 0))))]) (rest := []) (own := RL) ⟨hx, hb, hml, hown, hts⟩ (c_X11_thrown l hst D e0 ma 1 m1 m2 m3 m4 m5 m6 m7 m8 ) (cwV 0 hts gl_V_c_X11_thrown rfl rfl rfl (by decide +kernel) ⟨Nat.le_of_ble_eq_true rfl, Nat.le_of_ble_eq_true rfl⟩) hh rfl rfl [1] [0] [] rfl rfl rfl rfl (by decide) rfl rfl hl rfl (Nat.le_of_ble_eq_true rfl) dL_law_1645 ⟨Nat.le_of_ble_eq_true rfl, (Nat.le_of_ble_eq_true rfl)⟩ (fun _ _ _ _ _ h => h.elim) (fun v w ty1 H locs hp hh => ?_)
  obtain ⟨rfl, rfl, rfl⟩ := hp
  have hh : kH D kStr e0 A s H [(o1, .inl (z3, 1, .inr (.inl (fun _ => 0)))), (ma, .inr (16, [.int 1, .ref m1, .ref m2, .ref m3, .ref m4, .ref m5, .ref m6, .ref m7, .ref m8, .int 0, .int 0]))] [(z3, .long), (z3, .long)] _ := hh
  refine W.eq (g2 := F0 m 1648 ls [.int 1]) (by first | rfl | decide) ?_
  refine lv_iload hx hb dL_law_1648 (lv_at hl 1 rfl) ?_
  refine lv_icmp_eq (tgt := 1655) hx hb dL_law_1650 (by decide) (fun _ => ?_) (fun c_1650 => absurd (by decide) c_1650)
  refine lv_iload hx hb dL_law_1655 (lv_at hl 1 rfl) ?_
  refine lv_if_ne (tgt := 1672) hx hb dL_law_1657 (by decide) (fun _ => ?_) (fun c_1657 => absurd c_1657 (by decide))
  refine lv_goto (tgt := 3429) hx hb dL_law_1672 (by decide) ?_
  refine W.widen (k := 1000) (n := 100000) (Nat.le_of_ble_eq_true rfl) (Nat.le_of_ble_eq_true rfl) ?_
  exact kk _ _ _ hh.2.2.2.1 (lv_sub hl [7, 2] rfl)
set_option maxHeartbeats 4000000 in
set_option maxRecDepth 100000 in
theorem law_22 {p : Program} {l : Launch} {e : Env} {s : State} {m : MethodId} {below : List Frame} {meth : Method} {c : Code} {Q : State → Prop} {b : Nat} {xs : Nat → Int32} {D : va_G} {e0 : kE} {A : Nat → Prop} (hst : l.stackTraces = false) (hx : p.tables.exec = Jvm.exec) (hb : c.code = cL_law) (hml : c.maxLocals = 9) (hts : ∀ w ∈ lw_tbl, w.before #[Value.ref b] s = true) (hown : s.vm.findClass RL = some m.cls) (hX : va_X b 5 xs s s.heap) (hbl : b < s.heap.size) (hbA : ¬ A b) {xa x1 x2 x3 x4 x5 g1 g2 g3 g4 h1 h2 h3 h4 h5 ma m1 m2 m3 m4 m5 m6 m7 m8 o1 o2 : Nat} {z1 z2 z3 z4 : ClassId}  {H : Heap} {locs : List Loc} {ls : Array Slot} (hh : kH D kStr e0 A s H (lwW e0 xa x1 x2 x3 x4 x5 g1 g2 g3 g4 h1 h2 h3 h4 h5 ma m1 m2 m3 m4 m5 m6 m7 m8 o1 o2 z1 z2 z3 z4) (lwT z1 z2 z3 z4) locs) (hl : lv_has ls 9 (lwL b xa ma o1 o2)) (kk : lwK p l e s m below meth c Q b A) : W p l e room_1 s m #[Value.ref b] below meth c H locs 100 10000 Q (F0 m 1688 ls []) := by
  have hh : kH D kStr e0 A s H [(xa, .inr (11, [.ref x1, .int 0, .ref x2, .int 0, .ref x3, .ref x4, .ref x5, .int 0])), (x3, .inr (9, [.ref g1, .int 0, .ref g2, .int 0, .ref g3, .ref g4])), (ma, .inr (16, [.int 0, .ref m1, .ref m2, .ref m3, .ref m4, .ref m5, .ref m6, .ref m7, .ref m8, .int 0, .int 0])), (m3, .inr (4, [.int 0, .ref e0.1, .int 0])), (o1, .inl (z3, 1, .inr (.inl (fun _ => 0))))] [(z3, .long)] _ := hh.sub [0, 1, 5, 8, 14] [2] rfl rfl rfl
  have hl : lv_has ls 9 [(5, .int 0), (4, .ref o2), (3, .ref o1), (2, .ref ma), (1, .ref xa), (0, .ref b)] := hl
  refine lv_aload_n hx hb dL_law_1688 rfl (lv_at hl 4 rfl) ?_
  refine lv_aload_n hx hb dL_law_1689 rfl (lv_at hl 5 rfl) ?_
  refine lv_iload hx hb dL_law_1690 (lv_at hl 0 rfl) ?_
  refine lv_iconst (v := 1) hx hb dL_law_1692 (by decide) ?_
  refine lv_iadd hx hb dL_law_1693 ?_
  refine W.eq (g2 := F0 m 1694 ls [.int 1, .ref b, .ref xa]) (by first | rfl | decide) ?_
  refine va_sld hx hb hX hbl hbA hh.2.2.2.1 (by unfold vp_in; decide) dL_law_1694 ?_
  refine W.eq (g2 := F0 m 1695 ls [.int (xs 1), .ref xa]) rfl ?_
  refine lv_aload_n hx hb dL_law_1695 rfl (lv_at hl 2 rfl) ?_
  refine k_callSX (wr := [(ma, .inr (16, [.int 0, .ref m1, .ref m2, .ref m3, .ref m4, .ref m5, .ref m6, .ref m7, .ref m8, .int 0, .int 0])), (m3, .inr (4, [.int 0, .ref e0.1, .int 0]))]) (rest := []) (own := RL) ⟨hx, hb, hml, hown, hts⟩ (c_L_heard l hst D e0 xa x1 x2 x3 x4 x5 g1 g2 g3 g4 ((xs 1)) o1 z3 ((fun _ => 0)) ) (vx_cwSW 3 hts gl_S_c_L_heard rfl rfl rfl (by decide +kernel) ⟨Nat.le_of_ble_eq_true rfl, Nat.le_of_ble_eq_true rfl⟩) hh [0, 1, 4] [2, 3] [0] rfl rfl rfl rfl (by decide) rfl rfl hl rfl (Nat.le_of_ble_eq_true rfl) dL_law_1696 ⟨Nat.le_of_ble_eq_true rfl, (Nat.le_of_ble_eq_true rfl)⟩ (fun _ _ _ _ _ h => h.elim) (fun v w ty1 H locs hp hh => ?_)
  obtain ⟨rfl, rfl, rfl⟩ := hp
  have hh : kH D kStr e0 A s H [(ma, .inr (16, [.int 0, .ref m1, .ref m2, .ref m3, .ref m4, .ref m5, .ref m6, .ref m7, .ref m8, .int 0, .int 0])), (m3, .inr (4, [.int 0, .ref e0.1, .int 0])), (o1, .inl (z3, 1, .inr (.inl (fun _ => 0))))] [(z3, .long), (z3, .long)] _ := hh
  refine W.eq (g2 := F0 m 1699 ls [.int 1]) (by first | rfl | decide) ?_
  refine lv_istore (lv' := [(6, .int 1), (5, .int 0), (4, .ref o2), (3, .ref o1), (2, .ref ma), (1, .ref xa), (0, .ref b)]) hx hb dL_law_1699 hl (by decide) rfl (fun ls hl => ?_)
  refine lv_aload_n hx hb dL_law_1701 rfl (lv_at hl 4 rfl) ?_
  refine lv_aload_n hx hb dL_law_1702 rfl (lv_at hl 6 rfl) ?_
  refine lv_iload hx hb dL_law_1703 (lv_at hl 1 rfl) ?_
  refine lv_iconst (v := 1) hx hb dL_law_1705 (by decide) ?_
  refine lv_iadd hx hb dL_law_1706 ?_
  refine W.eq (g2 := F0 m 1707 ls [.int 1, .ref b, .ref ma]) (by first | rfl | decide) ?_
  refine va_sld hx hb hX hbl hbA hh.2.2.2.1 (by unfold vp_in; decide) dL_law_1707 ?_
  refine W.eq (g2 := F0 m 1708 ls [.int (xs 1), .ref ma]) rfl ?_
  refine k_callV (C := RX11) (T := TX11) (N := 11) (ci := 16) (q0 := 0) (wr := [(o1, .inl (z3, 1, .inr (.inl (fun _ => 0))))]) (rest := []) (own := RL) ⟨hx, hb, hml, hown, hts⟩ (c_X11_heard l hst D e0 ma 0 m1 m2 m3 m4 m5 m6 m7 m8 ((xs 1)) ) (cwV 1 hts gl_V_c_X11_heard rfl rfl rfl (by decide +kernel) ⟨Nat.le_of_ble_eq_true rfl, Nat.le_of_ble_eq_true rfl⟩) hh rfl rfl [0, 1] [2] [] rfl rfl rfl rfl (by decide) rfl rfl hl rfl (Nat.le_of_ble_eq_true rfl) dL_law_1708 ⟨Nat.le_of_ble_eq_true rfl, (Nat.le_of_ble_eq_true rfl)⟩ (fun _ _ _ _ _ h => h.elim) (fun v w ty1 H locs hp hh => ?_)
  obtain ⟨rfl, rfl, rfl⟩ := hp
  have hh : kH D kStr e0 A s H [(o1, .inl (z3, 1, .inr (.inl (fun _ => 0)))), (ma, .inr (16, [.int 1, .ref m1, .ref m2, .ref m3, .ref m4, .ref m5, .ref m6, .ref m7, .ref m8, .int 0, .int 0]))] [(z3, .long), (z3, .long)] _ := hh
  refine W.eq (g2 := F0 m 1711 ls [.int 0]) (by first | rfl | decide) ?_
  refine lv_istore (lv' := [(7, .int 0), (6, .int 1), (5, .int 0), (4, .ref o2), (3, .ref o1), (2, .ref ma), (1, .ref xa), (0, .ref b)]) hx hb dL_law_1711 hl (by decide) rfl (fun ls hl => ?_)
  refine lv_aload_n hx hb dL_law_1713 rfl (lv_at hl 5 rfl) ?_
  refine k_callV (C := RX11) (T := TX11) (N := 11) (ci := 16) (q0 := 1) (wr := [(o1, .inl (z3, 1, .inr (.inl (fun _ => 0))))]) (rest := []) (own := RL) ⟨hx, hb, hml, hown, hts⟩ (c_X11_thrown l hst D e0 ma 1 m1 m2 m3 m4 m5 m6 m7 m8 ) (cwV 0 hts gl_V_c_X11_thrown rfl rfl rfl (by decide +kernel) ⟨Nat.le_of_ble_eq_true rfl, Nat.le_of_ble_eq_true rfl⟩) hh rfl rfl [1] [0] [] rfl rfl rfl rfl (by decide) rfl rfl hl rfl (Nat.le_of_ble_eq_true rfl) dL_law_1714 ⟨Nat.le_of_ble_eq_true rfl, (Nat.le_of_ble_eq_true rfl)⟩ (fun _ _ _ _ _ h => h.elim) (fun v w ty1 H locs hp hh => ?_)
  obtain ⟨rfl, rfl, rfl⟩ := hp
  have hh : kH D kStr e0 A s H [(o1, .inl (z3, 1, .inr (.inl (fun _ => 0)))), (ma, .inr (16, [.int 1, .ref m1, .ref m2, .ref m3, .ref m4, .ref m5, .ref m6, .ref m7, .ref m8, .int 0, .int 0]))] [(z3, .long), (z3, .long)] _ := hh
  refine W.eq (g2 := F0 m 1717 ls [.int 1]) (by first | rfl | decide) ?_
  refine lv_iload hx hb dL_law_1717 (lv_at hl 1 rfl) ?_
  refine lv_icmp_eq (tgt := 1724) hx hb dL_law_1719 (by decide) (fun _ => ?_) (fun c_1719 => absurd (by decide) c_1719)
  refine lv_iload hx hb dL_law_1724 (lv_at hl 1 rfl) ?_
  refine lv_if_ne (tgt := 1741) hx hb dL_law_1726 (by decide) (fun _ => ?_) (fun c_1726 => absurd c_1726 (by decide))
  refine lv_goto (tgt := 3429) hx hb dL_law_1741 (by decide) ?_
  refine W.widen (k := 1000) (n := 100000) (Nat.le_of_ble_eq_true rfl) (Nat.le_of_ble_eq_true rfl) ?_
  exact kk _ _ _ hh.2.2.2.1 (lv_sub hl [7, 2] rfl)
set_option maxHeartbeats 4000000 in
set_option maxRecDepth 100000 in
theorem law_24 {p : Program} {l : Launch} {e : Env} {s : State} {m : MethodId} {below : List Frame} {meth : Method} {c : Code} {Q : State → Prop} {b : Nat} {xs : Nat → Int32} {D : va_G} {e0 : kE} {A : Nat → Prop} (hst : l.stackTraces = false) (hx : p.tables.exec = Jvm.exec) (hb : c.code = cL_law) (hml : c.maxLocals = 9) (hts : ∀ w ∈ lw_tbl, w.before #[Value.ref b] s = true) (hown : s.vm.findClass RL = some m.cls) (hX : va_X b 5 xs s s.heap) (hbl : b < s.heap.size) (hbA : ¬ A b) {xa x1 x2 x3 x4 x5 g1 g2 g3 g4 h1 h2 h3 h4 h5 ma m1 m2 m3 m4 m5 m6 m7 m8 o1 o2 : Nat} {z1 z2 z3 z4 : ClassId}  {H : Heap} {locs : List Loc} {ls : Array Slot} (hh : kH D kStr e0 A s H (lwW e0 xa x1 x2 x3 x4 x5 g1 g2 g3 g4 h1 h2 h3 h4 h5 ma m1 m2 m3 m4 m5 m6 m7 m8 o1 o2 z1 z2 z3 z4) (lwT z1 z2 z3 z4) locs) (hl : lv_has ls 9 (lwL b xa ma o1 o2)) (kk : lwK p l e s m below meth c Q b A) : W p l e room_1 s m #[Value.ref b] below meth c H locs 100 10000 Q (F0 m 1800 ls []) := by
  have hh : kH D kStr e0 A s H [(xa, .inr (11, [.ref x1, .int 0, .ref x2, .int 0, .ref x3, .ref x4, .ref x5, .int 0])), (x3, .inr (9, [.ref g1, .int 0, .ref g2, .int 0, .ref g3, .ref g4])), (ma, .inr (16, [.int 0, .ref m1, .ref m2, .ref m3, .ref m4, .ref m5, .ref m6, .ref m7, .ref m8, .int 0, .int 0])), (m3, .inr (4, [.int 0, .ref e0.1, .int 0])), (o1, .inl (z3, 1, .inr (.inl (fun _ => 0))))] [(z3, .long)] _ := hh.sub [0, 1, 5, 8, 14] [2] rfl rfl rfl
  have hl : lv_has ls 9 [(5, .int 0), (4, .ref o2), (3, .ref o1), (2, .ref ma), (1, .ref xa), (0, .ref b)] := hl
  refine lv_aload_n hx hb dL_law_1800 rfl (lv_at hl 4 rfl) ?_
  refine lv_aload_n hx hb dL_law_1801 rfl (lv_at hl 5 rfl) ?_
  refine lv_iload hx hb dL_law_1802 (lv_at hl 0 rfl) ?_
  refine lv_iconst (v := 1) hx hb dL_law_1804 (by decide) ?_
  refine lv_iadd hx hb dL_law_1805 ?_
  refine W.eq (g2 := F0 m 1806 ls [.int 1, .ref b, .ref xa]) (by first | rfl | decide) ?_
  refine va_sld hx hb hX hbl hbA hh.2.2.2.1 (by unfold vp_in; decide) dL_law_1806 ?_
  refine W.eq (g2 := F0 m 1807 ls [.int (xs 1), .ref xa]) rfl ?_
  refine lv_aload_n hx hb dL_law_1807 rfl (lv_at hl 5 rfl) ?_
  refine lv_iload hx hb dL_law_1808 (lv_at hl 0 rfl) ?_
  refine lv_iconst (v := 2) hx hb dL_law_1810 (by decide) ?_
  refine lv_iadd hx hb dL_law_1811 ?_
  refine W.eq (g2 := F0 m 1812 ls [.int 2, .ref b, .int (xs 1), .ref xa]) (by first | rfl | decide) ?_
  refine va_sld hx hb hX hbl hbA hh.2.2.2.1 (by unfold vp_in; decide) dL_law_1812 ?_
  refine W.eq (g2 := F0 m 1813 ls [.int (xs 2), .int (xs 1), .ref xa]) rfl ?_
  refine lv_aload_n hx hb dL_law_1813 rfl (lv_at hl 2 rfl) ?_
  refine k_callSX (wr := [(ma, .inr (16, [.int 0, .ref m1, .ref m2, .ref m3, .ref m4, .ref m5, .ref m6, .ref m7, .ref m8, .int 0, .int 0])), (m3, .inr (4, [.int 0, .ref e0.1, .int 0]))]) (rest := []) (own := RL) ⟨hx, hb, hml, hown, hts⟩ (c_L_sideOf l hst D e0 xa x1 x2 x3 x4 x5 g1 g2 g3 g4 ((xs 1)) ((xs 2)) o1 z3 ((fun _ => 0)) ) (vx_cwSW 4 hts gl_S_c_L_sideOf rfl rfl rfl (by decide +kernel) ⟨Nat.le_of_ble_eq_true rfl, Nat.le_of_ble_eq_true rfl⟩) hh [0, 1, 4] [2, 3] [0] rfl rfl rfl rfl (by decide) rfl rfl hl rfl (Nat.le_of_ble_eq_true rfl) dL_law_1814 ⟨Nat.le_of_ble_eq_true rfl, (Nat.le_of_ble_eq_true rfl)⟩ (fun _ _ _ _ _ h => h.elim) (fun v w ty1 H locs hp hh => ?_)
  obtain ⟨rfl, rfl, rfl⟩ := hp
  have hh : kH D kStr e0 A s H [(ma, .inr (16, [.int 0, .ref m1, .ref m2, .ref m3, .ref m4, .ref m5, .ref m6, .ref m7, .ref m8, .int 0, .int 0])), (m3, .inr (4, [.int 0, .ref e0.1, .int 0])), (o1, .inl (z3, 1, .inr (.inl (fun _ => 0))))] [(z3, .long), (z3, .long)] _ := hh
  refine W.eq (g2 := F0 m 1817 ls [.int 1]) (by first | rfl | decide) ?_
  refine lv_istore (lv' := [(6, .int 1), (5, .int 0), (4, .ref o2), (3, .ref o1), (2, .ref ma), (1, .ref xa), (0, .ref b)]) hx hb dL_law_1817 hl (by decide) rfl (fun ls hl => ?_)
  refine lv_aload_n hx hb dL_law_1819 rfl (lv_at hl 4 rfl) ?_
  refine lv_aload_n hx hb dL_law_1820 rfl (lv_at hl 6 rfl) ?_
  refine lv_iload hx hb dL_law_1821 (lv_at hl 1 rfl) ?_
  refine lv_iconst (v := 1) hx hb dL_law_1823 (by decide) ?_
  refine lv_iadd hx hb dL_law_1824 ?_
  refine W.eq (g2 := F0 m 1825 ls [.int 1, .ref b, .ref ma]) (by first | rfl | decide) ?_
  refine va_sld hx hb hX hbl hbA hh.2.2.2.1 (by unfold vp_in; decide) dL_law_1825 ?_
  refine W.eq (g2 := F0 m 1826 ls [.int (xs 1), .ref ma]) rfl ?_
  refine lv_aload_n hx hb dL_law_1826 rfl (lv_at hl 6 rfl) ?_
  refine lv_iload hx hb dL_law_1827 (lv_at hl 1 rfl) ?_
  refine lv_iconst (v := 2) hx hb dL_law_1829 (by decide) ?_
  refine lv_iadd hx hb dL_law_1830 ?_
  refine W.eq (g2 := F0 m 1831 ls [.int 2, .ref b, .int (xs 1), .ref ma]) (by first | rfl | decide) ?_
  refine va_sld hx hb hX hbl hbA hh.2.2.2.1 (by unfold vp_in; decide) dL_law_1831 ?_
  refine W.eq (g2 := F0 m 1832 ls [.int (xs 2), .int (xs 1), .ref ma]) rfl ?_
  refine k_callV (C := RX11) (T := TX11) (N := 11) (ci := 16) (q0 := 0) (wr := [(o1, .inl (z3, 1, .inr (.inl (fun _ => 0))))]) (rest := []) (own := RL) ⟨hx, hb, hml, hown, hts⟩ (c_X11_sideOf l hst D e0 ma 0 m1 m2 m3 m4 m5 m6 m7 m8 ((xs 1)) ((xs 2)) ) (cwV 2 hts gl_V_c_X11_sideOf rfl rfl rfl (by decide +kernel) ⟨Nat.le_of_ble_eq_true rfl, Nat.le_of_ble_eq_true rfl⟩) hh rfl rfl [0, 1] [2] [] rfl rfl rfl rfl (by decide) rfl rfl hl rfl (Nat.le_of_ble_eq_true rfl) dL_law_1832 ⟨Nat.le_of_ble_eq_true rfl, (Nat.le_of_ble_eq_true rfl)⟩ (fun _ _ _ _ _ h => h.elim) (fun v w ty1 H locs hp hh => ?_)
  obtain ⟨rfl, rfl, rfl⟩ := hp
  have hh : kH D kStr e0 A s H [(o1, .inl (z3, 1, .inr (.inl (fun _ => 0)))), (ma, .inr (16, [.int 1, .ref m1, .ref m2, .ref m3, .ref m4, .ref m5, .ref m6, .ref m7, .ref m8, .int 0, .int 0]))] [(z3, .long), (z3, .long)] _ := hh
  refine W.eq (g2 := F0 m 1835 ls [.int 0]) (by first | rfl | decide) ?_
  refine lv_istore (lv' := [(7, .int 0), (6, .int 1), (5, .int 0), (4, .ref o2), (3, .ref o1), (2, .ref ma), (1, .ref xa), (0, .ref b)]) hx hb dL_law_1835 hl (by decide) rfl (fun ls hl => ?_)
  refine lv_aload_n hx hb dL_law_1837 rfl (lv_at hl 5 rfl) ?_
  refine k_callV (C := RX11) (T := TX11) (N := 11) (ci := 16) (q0 := 1) (wr := [(o1, .inl (z3, 1, .inr (.inl (fun _ => 0))))]) (rest := []) (own := RL) ⟨hx, hb, hml, hown, hts⟩ (c_X11_thrown l hst D e0 ma 1 m1 m2 m3 m4 m5 m6 m7 m8 ) (cwV 0 hts gl_V_c_X11_thrown rfl rfl rfl (by decide +kernel) ⟨Nat.le_of_ble_eq_true rfl, Nat.le_of_ble_eq_true rfl⟩) hh rfl rfl [1] [0] [] rfl rfl rfl rfl (by decide) rfl rfl hl rfl (Nat.le_of_ble_eq_true rfl) dL_law_1838 ⟨Nat.le_of_ble_eq_true rfl, (Nat.le_of_ble_eq_true rfl)⟩ (fun _ _ _ _ _ h => h.elim) (fun v w ty1 H locs hp hh => ?_)
  obtain ⟨rfl, rfl, rfl⟩ := hp
  have hh : kH D kStr e0 A s H [(o1, .inl (z3, 1, .inr (.inl (fun _ => 0)))), (ma, .inr (16, [.int 1, .ref m1, .ref m2, .ref m3, .ref m4, .ref m5, .ref m6, .ref m7, .ref m8, .int 0, .int 0]))] [(z3, .long), (z3, .long)] _ := hh
  refine W.eq (g2 := F0 m 1841 ls [.int 1]) (by first | rfl | decide) ?_
  refine lv_iload hx hb dL_law_1841 (lv_at hl 1 rfl) ?_
  refine lv_icmp_eq (tgt := 1848) hx hb dL_law_1843 (by decide) (fun _ => ?_) (fun c_1843 => absurd (by decide) c_1843)
  refine lv_iload hx hb dL_law_1848 (lv_at hl 1 rfl) ?_
  refine lv_if_ne (tgt := 1865) hx hb dL_law_1850 (by decide) (fun _ => ?_) (fun c_1850 => absurd c_1850 (by decide))
  refine lv_goto (tgt := 3429) hx hb dL_law_1865 (by decide) ?_
  refine W.widen (k := 1000) (n := 100000) (Nat.le_of_ble_eq_true rfl) (Nat.le_of_ble_eq_true rfl) ?_
  exact kk _ _ _ hh.2.2.2.1 (lv_sub hl [7, 2] rfl)
set_option maxHeartbeats 4000000 in
set_option maxRecDepth 100000 in
theorem law_26 {p : Program} {l : Launch} {e : Env} {s : State} {m : MethodId} {below : List Frame} {meth : Method} {c : Code} {Q : State → Prop} {b : Nat} {xs : Nat → Int32} {D : va_G} {e0 : kE} {A : Nat → Prop} (hst : l.stackTraces = false) (hx : p.tables.exec = Jvm.exec) (hb : c.code = cL_law) (hml : c.maxLocals = 9) (hts : ∀ w ∈ lw_tbl, w.before #[Value.ref b] s = true) (hown : s.vm.findClass RL = some m.cls) (hX : va_X b 5 xs s s.heap) (hbl : b < s.heap.size) (hbA : ¬ A b) {xa x1 x2 x3 x4 x5 g1 g2 g3 g4 h1 h2 h3 h4 h5 ma m1 m2 m3 m4 m5 m6 m7 m8 o1 o2 : Nat} {z1 z2 z3 z4 : ClassId}  {H : Heap} {locs : List Loc} {ls : Array Slot} (hh : kH D kStr e0 A s H (lwW e0 xa x1 x2 x3 x4 x5 g1 g2 g3 g4 h1 h2 h3 h4 h5 ma m1 m2 m3 m4 m5 m6 m7 m8 o1 o2 z1 z2 z3 z4) (lwT z1 z2 z3 z4) locs) (hl : lv_has ls 9 (lwL b xa ma o1 o2)) (kk : lwK p l e s m below meth c Q b A) : W p l e room_1 s m #[Value.ref b] below meth c H locs 100 10000 Q (F0 m 1936 ls []) := by
  have hh : kH D kStr e0 A s H [(xa, .inr (11, [.ref x1, .int 0, .ref x2, .int 0, .ref x3, .ref x4, .ref x5, .int 0])), (x4, .inr (8, [.ref h1, .ref h2, .int 0, .ref h3, .int 0, .ref h4, .int 0, .ref h5, .int 0, .int 0, .int 0])), (ma, .inr (16, [.int 0, .ref m1, .ref m2, .ref m3, .ref m4, .ref m5, .ref m6, .ref m7, .ref m8, .int 0, .int 0])), (m4, .inr (4, [.int 0, .ref e0.1, .int 0])), (o1, .inl (z3, 1, .inr (.inl (fun _ => 0))))] [(z3, .long)] _ := hh.sub [0, 2, 5, 9, 14] [2] rfl rfl rfl
  have hl : lv_has ls 9 [(5, .int 0), (4, .ref o2), (3, .ref o1), (2, .ref ma), (1, .ref xa), (0, .ref b)] := hl
  refine lv_aload_n hx hb dL_law_1936 rfl (lv_at hl 4 rfl) ?_
  refine lv_aload_n hx hb dL_law_1937 rfl (lv_at hl 5 rfl) ?_
  refine lv_iload hx hb dL_law_1938 (lv_at hl 0 rfl) ?_
  refine lv_iconst (v := 1) hx hb dL_law_1940 (by decide) ?_
  refine lv_iadd hx hb dL_law_1941 ?_
  refine W.eq (g2 := F0 m 1942 ls [.int 1, .ref b, .ref xa]) (by first | rfl | decide) ?_
  refine va_sld hx hb hX hbl hbA hh.2.2.2.1 (by unfold vp_in; decide) dL_law_1942 ?_
  refine W.eq (g2 := F0 m 1943 ls [.int (xs 1), .ref xa]) rfl ?_
  refine lv_aload_n hx hb dL_law_1943 rfl (lv_at hl 2 rfl) ?_
  refine k_callSX (wr := [(ma, .inr (16, [.int 0, .ref m1, .ref m2, .ref m3, .ref m4, .ref m5, .ref m6, .ref m7, .ref m8, .int 0, .int 0])), (m4, .inr (4, [.int 0, .ref e0.1, .int 0]))]) (rest := []) (own := RL) ⟨hx, hb, hml, hown, hts⟩ (c_L_failedAt l hst D e0 xa x1 x2 x3 x4 x5 h1 h2 h3 h4 h5 ((xs 1)) o1 z3 ((fun _ => 0)) ) (vx_cwSW 3 hts gl_S_c_L_failedAt rfl rfl rfl (by decide +kernel) ⟨Nat.le_of_ble_eq_true rfl, Nat.le_of_ble_eq_true rfl⟩) hh [0, 1, 4] [2, 3] [0] rfl rfl rfl rfl (by decide) rfl rfl hl rfl (Nat.le_of_ble_eq_true rfl) dL_law_1944 ⟨Nat.le_of_ble_eq_true rfl, (Nat.le_of_ble_eq_true rfl)⟩ (fun _ _ _ _ _ h => h.elim) (fun v w ty1 H locs hp hh => ?_)
  obtain ⟨rfl, rfl, rfl⟩ := hp
  have hh : kH D kStr e0 A s H [(ma, .inr (16, [.int 0, .ref m1, .ref m2, .ref m3, .ref m4, .ref m5, .ref m6, .ref m7, .ref m8, .int 0, .int 0])), (m4, .inr (4, [.int 0, .ref e0.1, .int 0])), (o1, .inl (z3, 1, .inr (.inl (fun _ => 0))))] [(z3, .long), (z3, .long)] _ := hh
  refine W.eq (g2 := F0 m 1947 ls [.int 1]) (by first | rfl | decide) ?_
  refine lv_istore (lv' := [(6, .int 1), (5, .int 0), (4, .ref o2), (3, .ref o1), (2, .ref ma), (1, .ref xa), (0, .ref b)]) hx hb dL_law_1947 hl (by decide) rfl (fun ls hl => ?_)
  refine lv_aload_n hx hb dL_law_1949 rfl (lv_at hl 4 rfl) ?_
  refine lv_aload_n hx hb dL_law_1950 rfl (lv_at hl 6 rfl) ?_
  refine lv_iload hx hb dL_law_1951 (lv_at hl 1 rfl) ?_
  refine lv_iconst (v := 1) hx hb dL_law_1953 (by decide) ?_
  refine lv_iadd hx hb dL_law_1954 ?_
  refine W.eq (g2 := F0 m 1955 ls [.int 1, .ref b, .ref ma]) (by first | rfl | decide) ?_
  refine va_sld hx hb hX hbl hbA hh.2.2.2.1 (by unfold vp_in; decide) dL_law_1955 ?_
  refine W.eq (g2 := F0 m 1956 ls [.int (xs 1), .ref ma]) rfl ?_
  refine k_callV (C := RX11) (T := TX11) (N := 11) (ci := 16) (q0 := 0) (wr := [(o1, .inl (z3, 1, .inr (.inl (fun _ => 0))))]) (rest := []) (own := RL) ⟨hx, hb, hml, hown, hts⟩ (c_X11_failedAt l hst D e0 ma 0 m1 m2 m3 m4 m5 m6 m7 m8 ((xs 1)) ) (cwV 1 hts gl_V_c_X11_failedAt rfl rfl rfl (by decide +kernel) ⟨Nat.le_of_ble_eq_true rfl, Nat.le_of_ble_eq_true rfl⟩) hh rfl rfl [0, 1] [2] [] rfl rfl rfl rfl (by decide) rfl rfl hl rfl (Nat.le_of_ble_eq_true rfl) dL_law_1956 ⟨Nat.le_of_ble_eq_true rfl, (Nat.le_of_ble_eq_true rfl)⟩ (fun _ _ _ _ _ h => h.elim) (fun v w ty1 H locs hp hh => ?_)
  obtain ⟨rfl, rfl, rfl⟩ := hp
  have hh : kH D kStr e0 A s H [(o1, .inl (z3, 1, .inr (.inl (fun _ => 0)))), (ma, .inr (16, [.int 1, .ref m1, .ref m2, .ref m3, .ref m4, .ref m5, .ref m6, .ref m7, .ref m8, .int 0, .int 0]))] [(z3, .long), (z3, .long)] _ := hh
  refine W.eq (g2 := F0 m 1959 ls [.int 0]) (by first | rfl | decide) ?_
  refine lv_istore (lv' := [(7, .int 0), (6, .int 1), (5, .int 0), (4, .ref o2), (3, .ref o1), (2, .ref ma), (1, .ref xa), (0, .ref b)]) hx hb dL_law_1959 hl (by decide) rfl (fun ls hl => ?_)
  refine lv_aload_n hx hb dL_law_1961 rfl (lv_at hl 5 rfl) ?_
  refine k_callV (C := RX11) (T := TX11) (N := 11) (ci := 16) (q0 := 1) (wr := [(o1, .inl (z3, 1, .inr (.inl (fun _ => 0))))]) (rest := []) (own := RL) ⟨hx, hb, hml, hown, hts⟩ (c_X11_thrown l hst D e0 ma 1 m1 m2 m3 m4 m5 m6 m7 m8 ) (cwV 0 hts gl_V_c_X11_thrown rfl rfl rfl (by decide +kernel) ⟨Nat.le_of_ble_eq_true rfl, Nat.le_of_ble_eq_true rfl⟩) hh rfl rfl [1] [0] [] rfl rfl rfl rfl (by decide) rfl rfl hl rfl (Nat.le_of_ble_eq_true rfl) dL_law_1962 ⟨Nat.le_of_ble_eq_true rfl, (Nat.le_of_ble_eq_true rfl)⟩ (fun _ _ _ _ _ h => h.elim) (fun v w ty1 H locs hp hh => ?_)
  obtain ⟨rfl, rfl, rfl⟩ := hp
  have hh : kH D kStr e0 A s H [(o1, .inl (z3, 1, .inr (.inl (fun _ => 0)))), (ma, .inr (16, [.int 1, .ref m1, .ref m2, .ref m3, .ref m4, .ref m5, .ref m6, .ref m7, .ref m8, .int 0, .int 0]))] [(z3, .long), (z3, .long)] _ := hh
  refine W.eq (g2 := F0 m 1965 ls [.int 1]) (by first | rfl | decide) ?_
  refine lv_iload hx hb dL_law_1965 (lv_at hl 1 rfl) ?_
  refine lv_icmp_eq (tgt := 1972) hx hb dL_law_1967 (by decide) (fun _ => ?_) (fun c_1967 => absurd (by decide) c_1967)
  refine lv_iload hx hb dL_law_1972 (lv_at hl 1 rfl) ?_
  refine lv_if_ne (tgt := 1989) hx hb dL_law_1974 (by decide) (fun _ => ?_) (fun c_1974 => absurd c_1974 (by decide))
  refine lv_goto (tgt := 3429) hx hb dL_law_1989 (by decide) ?_
  refine W.widen (k := 1000) (n := 100000) (Nat.le_of_ble_eq_true rfl) (Nat.le_of_ble_eq_true rfl) ?_
  exact kk _ _ _ hh.2.2.2.1 (lv_sub hl [7, 2] rfl)
set_option maxHeartbeats 4000000 in
set_option maxRecDepth 100000 in
theorem law_27 {p : Program} {l : Launch} {e : Env} {s : State} {m : MethodId} {below : List Frame} {meth : Method} {c : Code} {Q : State → Prop} {b : Nat} {xs : Nat → Int32} {D : va_G} {e0 : kE} {A : Nat → Prop} (hst : l.stackTraces = false) (hx : p.tables.exec = Jvm.exec) (hb : c.code = cL_law) (hml : c.maxLocals = 9) (hts : ∀ w ∈ lw_tbl, w.before #[Value.ref b] s = true) (hown : s.vm.findClass RL = some m.cls) (hX : va_X b 5 xs s s.heap) (hbl : b < s.heap.size) (hbA : ¬ A b) {xa x1 x2 x3 x4 x5 g1 g2 g3 g4 h1 h2 h3 h4 h5 ma m1 m2 m3 m4 m5 m6 m7 m8 o1 o2 : Nat} {z1 z2 z3 z4 : ClassId}  {H : Heap} {locs : List Loc} {ls : Array Slot} (hh : kH D kStr e0 A s H (lwW e0 xa x1 x2 x3 x4 x5 g1 g2 g3 g4 h1 h2 h3 h4 h5 ma m1 m2 m3 m4 m5 m6 m7 m8 o1 o2 z1 z2 z3 z4) (lwT z1 z2 z3 z4) locs) (hl : lv_has ls 9 (lwL b xa ma o1 o2)) (kk : lwK p l e s m below meth c Q b A) : W p l e room_1 s m #[Value.ref b] below meth c H locs 100 10000 Q (F0 m 1992 ls []) := by
  have hh : kH D kStr e0 A s H [(xa, .inr (11, [.ref x1, .int 0, .ref x2, .int 0, .ref x3, .ref x4, .ref x5, .int 0])), (x4, .inr (8, [.ref h1, .ref h2, .int 0, .ref h3, .int 0, .ref h4, .int 0, .ref h5, .int 0, .int 0, .int 0])), (ma, .inr (16, [.int 0, .ref m1, .ref m2, .ref m3, .ref m4, .ref m5, .ref m6, .ref m7, .ref m8, .int 0, .int 0])), (m4, .inr (4, [.int 0, .ref e0.1, .int 0])), (o1, .inl (z3, 1, .inr (.inl (fun _ => 0))))] [(z3, .long)] _ := hh.sub [0, 2, 5, 9, 14] [2] rfl rfl rfl
  have hl : lv_has ls 9 [(5, .int 0), (4, .ref o2), (3, .ref o1), (2, .ref ma), (1, .ref xa), (0, .ref b)] := hl
  refine lv_aload_n hx hb dL_law_1992 rfl (lv_at hl 4 rfl) ?_
  refine lv_aload_n hx hb dL_law_1993 rfl (lv_at hl 5 rfl) ?_
  refine lv_iload hx hb dL_law_1994 (lv_at hl 0 rfl) ?_
  refine lv_iconst (v := 1) hx hb dL_law_1996 (by decide) ?_
  refine lv_iadd hx hb dL_law_1997 ?_
  refine W.eq (g2 := F0 m 1998 ls [.int 1, .ref b, .ref xa]) (by first | rfl | decide) ?_
  refine va_sld hx hb hX hbl hbA hh.2.2.2.1 (by unfold vp_in; decide) dL_law_1998 ?_
  refine W.eq (g2 := F0 m 1999 ls [.int (xs 1), .ref xa]) rfl ?_
  refine lv_aload_n hx hb dL_law_1999 rfl (lv_at hl 2 rfl) ?_
  refine k_callSX (wr := [(ma, .inr (16, [.int 0, .ref m1, .ref m2, .ref m3, .ref m4, .ref m5, .ref m6, .ref m7, .ref m8, .int 0, .int 0])), (m4, .inr (4, [.int 0, .ref e0.1, .int 0]))]) (rest := []) (own := RL) ⟨hx, hb, hml, hown, hts⟩ (c_L_father l hst D e0 xa x1 x2 x3 x4 x5 h1 h2 h3 h4 h5 ((xs 1)) o1 z3 ((fun _ => 0)) ) (vx_cwSW 3 hts gl_S_c_L_father rfl rfl rfl (by decide +kernel) ⟨Nat.le_of_ble_eq_true rfl, Nat.le_of_ble_eq_true rfl⟩) hh [0, 1, 4] [2, 3] [0] rfl rfl rfl rfl (by decide) rfl rfl hl rfl (Nat.le_of_ble_eq_true rfl) dL_law_2000 ⟨Nat.le_of_ble_eq_true rfl, (Nat.le_of_ble_eq_true rfl)⟩ (fun _ _ _ _ _ h => h.elim) (fun v w ty1 H locs hp hh => ?_)
  obtain ⟨rfl, rfl, rfl⟩ := hp
  have hh : kH D kStr e0 A s H [(ma, .inr (16, [.int 0, .ref m1, .ref m2, .ref m3, .ref m4, .ref m5, .ref m6, .ref m7, .ref m8, .int 0, .int 0])), (m4, .inr (4, [.int 0, .ref e0.1, .int 0])), (o1, .inl (z3, 1, .inr (.inl (fun _ => 0))))] [(z3, .long), (z3, .long)] _ := hh
  refine W.eq (g2 := F0 m 2003 ls [.int 1]) (by first | rfl | decide) ?_
  refine lv_istore (lv' := [(6, .int 1), (5, .int 0), (4, .ref o2), (3, .ref o1), (2, .ref ma), (1, .ref xa), (0, .ref b)]) hx hb dL_law_2003 hl (by decide) rfl (fun ls hl => ?_)
  refine lv_aload_n hx hb dL_law_2005 rfl (lv_at hl 4 rfl) ?_
  refine lv_aload_n hx hb dL_law_2006 rfl (lv_at hl 6 rfl) ?_
  refine lv_iload hx hb dL_law_2007 (lv_at hl 1 rfl) ?_
  refine lv_iconst (v := 1) hx hb dL_law_2009 (by decide) ?_
  refine lv_iadd hx hb dL_law_2010 ?_
  refine W.eq (g2 := F0 m 2011 ls [.int 1, .ref b, .ref ma]) (by first | rfl | decide) ?_
  refine va_sld hx hb hX hbl hbA hh.2.2.2.1 (by unfold vp_in; decide) dL_law_2011 ?_
  refine W.eq (g2 := F0 m 2012 ls [.int (xs 1), .ref ma]) rfl ?_
  refine k_callV (C := RX11) (T := TX11) (N := 11) (ci := 16) (q0 := 0) (wr := [(o1, .inl (z3, 1, .inr (.inl (fun _ => 0))))]) (rest := []) (own := RL) ⟨hx, hb, hml, hown, hts⟩ (c_X11_father l hst D e0 ma 0 m1 m2 m3 m4 m5 m6 m7 m8 ((xs 1)) ) (cwV 1 hts gl_V_c_X11_father rfl rfl rfl (by decide +kernel) ⟨Nat.le_of_ble_eq_true rfl, Nat.le_of_ble_eq_true rfl⟩) hh rfl rfl [0, 1] [2] [] rfl rfl rfl rfl (by decide) rfl rfl hl rfl (Nat.le_of_ble_eq_true rfl) dL_law_2012 ⟨Nat.le_of_ble_eq_true rfl, (Nat.le_of_ble_eq_true rfl)⟩ (fun _ _ _ _ _ h => h.elim) (fun v w ty1 H locs hp hh => ?_)
  obtain ⟨rfl, rfl, rfl⟩ := hp
  have hh : kH D kStr e0 A s H [(o1, .inl (z3, 1, .inr (.inl (fun _ => 0)))), (ma, .inr (16, [.int 1, .ref m1, .ref m2, .ref m3, .ref m4, .ref m5, .ref m6, .ref m7, .ref m8, .int 0, .int 0]))] [(z3, .long), (z3, .long)] _ := hh
  refine W.eq (g2 := F0 m 2015 ls [.int 0]) (by first | rfl | decide) ?_
  refine lv_istore (lv' := [(7, .int 0), (6, .int 1), (5, .int 0), (4, .ref o2), (3, .ref o1), (2, .ref ma), (1, .ref xa), (0, .ref b)]) hx hb dL_law_2015 hl (by decide) rfl (fun ls hl => ?_)
  refine lv_aload_n hx hb dL_law_2017 rfl (lv_at hl 5 rfl) ?_
  refine k_callV (C := RX11) (T := TX11) (N := 11) (ci := 16) (q0 := 1) (wr := [(o1, .inl (z3, 1, .inr (.inl (fun _ => 0))))]) (rest := []) (own := RL) ⟨hx, hb, hml, hown, hts⟩ (c_X11_thrown l hst D e0 ma 1 m1 m2 m3 m4 m5 m6 m7 m8 ) (cwV 0 hts gl_V_c_X11_thrown rfl rfl rfl (by decide +kernel) ⟨Nat.le_of_ble_eq_true rfl, Nat.le_of_ble_eq_true rfl⟩) hh rfl rfl [1] [0] [] rfl rfl rfl rfl (by decide) rfl rfl hl rfl (Nat.le_of_ble_eq_true rfl) dL_law_2018 ⟨Nat.le_of_ble_eq_true rfl, (Nat.le_of_ble_eq_true rfl)⟩ (fun _ _ _ _ _ h => h.elim) (fun v w ty1 H locs hp hh => ?_)
  obtain ⟨rfl, rfl, rfl⟩ := hp
  have hh : kH D kStr e0 A s H [(o1, .inl (z3, 1, .inr (.inl (fun _ => 0)))), (ma, .inr (16, [.int 1, .ref m1, .ref m2, .ref m3, .ref m4, .ref m5, .ref m6, .ref m7, .ref m8, .int 0, .int 0]))] [(z3, .long), (z3, .long)] _ := hh
  refine W.eq (g2 := F0 m 2021 ls [.int 1]) (by first | rfl | decide) ?_
  refine lv_iload hx hb dL_law_2021 (lv_at hl 1 rfl) ?_
  refine lv_icmp_eq (tgt := 2028) hx hb dL_law_2023 (by decide) (fun _ => ?_) (fun c_2023 => absurd (by decide) c_2023)
  refine lv_iload hx hb dL_law_2028 (lv_at hl 1 rfl) ?_
  refine lv_if_ne (tgt := 2045) hx hb dL_law_2030 (by decide) (fun _ => ?_) (fun c_2030 => absurd c_2030 (by decide))
  refine lv_goto (tgt := 3429) hx hb dL_law_2045 (by decide) ?_
  refine W.widen (k := 1000) (n := 100000) (Nat.le_of_ble_eq_true rfl) (Nat.le_of_ble_eq_true rfl) ?_
  exact kk _ _ _ hh.2.2.2.1 (lv_sub hl [7, 2] rfl)
set_option maxHeartbeats 4000000 in
set_option maxRecDepth 100000 in
theorem law_28 {p : Program} {l : Launch} {e : Env} {s : State} {m : MethodId} {below : List Frame} {meth : Method} {c : Code} {Q : State → Prop} {b : Nat} {xs : Nat → Int32} {D : va_G} {e0 : kE} {A : Nat → Prop} (hst : l.stackTraces = false) (hx : p.tables.exec = Jvm.exec) (hb : c.code = cL_law) (hml : c.maxLocals = 9) (hts : ∀ w ∈ lw_tbl, w.before #[Value.ref b] s = true) (hown : s.vm.findClass RL = some m.cls) (hX : va_X b 5 xs s s.heap) (hbl : b < s.heap.size) (hbA : ¬ A b) {xa x1 x2 x3 x4 x5 g1 g2 g3 g4 h1 h2 h3 h4 h5 ma m1 m2 m3 m4 m5 m6 m7 m8 o1 o2 : Nat} {z1 z2 z3 z4 : ClassId}  {H : Heap} {locs : List Loc} {ls : Array Slot} (hh : kH D kStr e0 A s H (lwW e0 xa x1 x2 x3 x4 x5 g1 g2 g3 g4 h1 h2 h3 h4 h5 ma m1 m2 m3 m4 m5 m6 m7 m8 o1 o2 z1 z2 z3 z4) (lwT z1 z2 z3 z4) locs) (hl : lv_has ls 9 (lwL b xa ma o1 o2)) (kk : lwK p l e s m below meth c Q b A) : W p l e room_1 s m #[Value.ref b] below meth c H locs 100 10000 Q (F0 m 2048 ls []) := by
  have hh : kH D kStr e0 A s H [(xa, .inr (11, [.ref x1, .int 0, .ref x2, .int 0, .ref x3, .ref x4, .ref x5, .int 0])), (x4, .inr (8, [.ref h1, .ref h2, .int 0, .ref h3, .int 0, .ref h4, .int 0, .ref h5, .int 0, .int 0, .int 0])), (ma, .inr (16, [.int 0, .ref m1, .ref m2, .ref m3, .ref m4, .ref m5, .ref m6, .ref m7, .ref m8, .int 0, .int 0])), (m5, .inr (4, [.int 0, .ref e0.1, .int 0])), (o1, .inl (z3, 1, .inr (.inl (fun _ => 0))))] [(z3, .long)] _ := hh.sub [0, 2, 5, 10, 14] [2] rfl rfl rfl
  have hl : lv_has ls 9 [(5, .int 0), (4, .ref o2), (3, .ref o1), (2, .ref ma), (1, .ref xa), (0, .ref b)] := hl
  refine lv_aload_n hx hb dL_law_2048 rfl (lv_at hl 4 rfl) ?_
  refine lv_aload_n hx hb dL_law_2049 rfl (lv_at hl 5 rfl) ?_
  refine lv_iload hx hb dL_law_2050 (lv_at hl 0 rfl) ?_
  refine lv_iconst (v := 1) hx hb dL_law_2052 (by decide) ?_
  refine lv_iadd hx hb dL_law_2053 ?_
  refine W.eq (g2 := F0 m 2054 ls [.int 1, .ref b, .ref xa]) (by first | rfl | decide) ?_
  refine va_sld hx hb hX hbl hbA hh.2.2.2.1 (by unfold vp_in; decide) dL_law_2054 ?_
  refine W.eq (g2 := F0 m 2055 ls [.int (xs 1), .ref xa]) rfl ?_
  refine lv_aload_n hx hb dL_law_2055 rfl (lv_at hl 2 rfl) ?_
  refine k_callSX (wr := [(ma, .inr (16, [.int 0, .ref m1, .ref m2, .ref m3, .ref m4, .ref m5, .ref m6, .ref m7, .ref m8, .int 0, .int 0])), (m5, .inr (4, [.int 0, .ref e0.1, .int 0]))]) (rest := []) (own := RL) ⟨hx, hb, hml, hown, hts⟩ (c_L_mother l hst D e0 xa x1 x2 x3 x4 x5 h1 h2 h3 h4 h5 ((xs 1)) o1 z3 ((fun _ => 0)) ) (vx_cwSW 3 hts gl_S_c_L_mother rfl rfl rfl (by decide +kernel) ⟨Nat.le_of_ble_eq_true rfl, Nat.le_of_ble_eq_true rfl⟩) hh [0, 1, 4] [2, 3] [0] rfl rfl rfl rfl (by decide) rfl rfl hl rfl (Nat.le_of_ble_eq_true rfl) dL_law_2056 ⟨Nat.le_of_ble_eq_true rfl, (Nat.le_of_ble_eq_true rfl)⟩ (fun _ _ _ _ _ h => h.elim) (fun v w ty1 H locs hp hh => ?_)
  obtain ⟨rfl, rfl, rfl⟩ := hp
  have hh : kH D kStr e0 A s H [(ma, .inr (16, [.int 0, .ref m1, .ref m2, .ref m3, .ref m4, .ref m5, .ref m6, .ref m7, .ref m8, .int 0, .int 0])), (m5, .inr (4, [.int 0, .ref e0.1, .int 0])), (o1, .inl (z3, 1, .inr (.inl (fun _ => 0))))] [(z3, .long), (z3, .long)] _ := hh
  refine W.eq (g2 := F0 m 2059 ls [.int 1]) (by first | rfl | decide) ?_
  refine lv_istore (lv' := [(6, .int 1), (5, .int 0), (4, .ref o2), (3, .ref o1), (2, .ref ma), (1, .ref xa), (0, .ref b)]) hx hb dL_law_2059 hl (by decide) rfl (fun ls hl => ?_)
  refine lv_aload_n hx hb dL_law_2061 rfl (lv_at hl 4 rfl) ?_
  refine lv_aload_n hx hb dL_law_2062 rfl (lv_at hl 6 rfl) ?_
  refine lv_iload hx hb dL_law_2063 (lv_at hl 1 rfl) ?_
  refine lv_iconst (v := 1) hx hb dL_law_2065 (by decide) ?_
  refine lv_iadd hx hb dL_law_2066 ?_
  refine W.eq (g2 := F0 m 2067 ls [.int 1, .ref b, .ref ma]) (by first | rfl | decide) ?_
  refine va_sld hx hb hX hbl hbA hh.2.2.2.1 (by unfold vp_in; decide) dL_law_2067 ?_
  refine W.eq (g2 := F0 m 2068 ls [.int (xs 1), .ref ma]) rfl ?_
  refine k_callV (C := RX11) (T := TX11) (N := 11) (ci := 16) (q0 := 0) (wr := [(o1, .inl (z3, 1, .inr (.inl (fun _ => 0))))]) (rest := []) (own := RL) ⟨hx, hb, hml, hown, hts⟩ (c_X11_mother l hst D e0 ma 0 m1 m2 m3 m4 m5 m6 m7 m8 ((xs 1)) ) (cwV 1 hts gl_V_c_X11_mother rfl rfl rfl (by decide +kernel) ⟨Nat.le_of_ble_eq_true rfl, Nat.le_of_ble_eq_true rfl⟩) hh rfl rfl [0, 1] [2] [] rfl rfl rfl rfl (by decide) rfl rfl hl rfl (Nat.le_of_ble_eq_true rfl) dL_law_2068 ⟨Nat.le_of_ble_eq_true rfl, (Nat.le_of_ble_eq_true rfl)⟩ (fun _ _ _ _ _ h => h.elim) (fun v w ty1 H locs hp hh => ?_)
  obtain ⟨rfl, rfl, rfl⟩ := hp
  have hh : kH D kStr e0 A s H [(o1, .inl (z3, 1, .inr (.inl (fun _ => 0)))), (ma, .inr (16, [.int 1, .ref m1, .ref m2, .ref m3, .ref m4, .ref m5, .ref m6, .ref m7, .ref m8, .int 0, .int 0]))] [(z3, .long), (z3, .long)] _ := hh
  refine W.eq (g2 := F0 m 2071 ls [.int 0]) (by first | rfl | decide) ?_
  refine lv_istore (lv' := [(7, .int 0), (6, .int 1), (5, .int 0), (4, .ref o2), (3, .ref o1), (2, .ref ma), (1, .ref xa), (0, .ref b)]) hx hb dL_law_2071 hl (by decide) rfl (fun ls hl => ?_)
  refine lv_aload_n hx hb dL_law_2073 rfl (lv_at hl 5 rfl) ?_
  refine k_callV (C := RX11) (T := TX11) (N := 11) (ci := 16) (q0 := 1) (wr := [(o1, .inl (z3, 1, .inr (.inl (fun _ => 0))))]) (rest := []) (own := RL) ⟨hx, hb, hml, hown, hts⟩ (c_X11_thrown l hst D e0 ma 1 m1 m2 m3 m4 m5 m6 m7 m8 ) (cwV 0 hts gl_V_c_X11_thrown rfl rfl rfl (by decide +kernel) ⟨Nat.le_of_ble_eq_true rfl, Nat.le_of_ble_eq_true rfl⟩) hh rfl rfl [1] [0] [] rfl rfl rfl rfl (by decide) rfl rfl hl rfl (Nat.le_of_ble_eq_true rfl) dL_law_2074 ⟨Nat.le_of_ble_eq_true rfl, (Nat.le_of_ble_eq_true rfl)⟩ (fun _ _ _ _ _ h => h.elim) (fun v w ty1 H locs hp hh => ?_)
  obtain ⟨rfl, rfl, rfl⟩ := hp
  have hh : kH D kStr e0 A s H [(o1, .inl (z3, 1, .inr (.inl (fun _ => 0)))), (ma, .inr (16, [.int 1, .ref m1, .ref m2, .ref m3, .ref m4, .ref m5, .ref m6, .ref m7, .ref m8, .int 0, .int 0]))] [(z3, .long), (z3, .long)] _ := hh
  refine W.eq (g2 := F0 m 2077 ls [.int 1]) (by first | rfl | decide) ?_
  refine lv_iload hx hb dL_law_2077 (lv_at hl 1 rfl) ?_
  refine lv_icmp_eq (tgt := 2084) hx hb dL_law_2079 (by decide) (fun _ => ?_) (fun c_2079 => absurd (by decide) c_2079)
  refine lv_iload hx hb dL_law_2084 (lv_at hl 1 rfl) ?_
  refine lv_if_ne (tgt := 2101) hx hb dL_law_2086 (by decide) (fun _ => ?_) (fun c_2086 => absurd c_2086 (by decide))
  refine lv_goto (tgt := 3429) hx hb dL_law_2101 (by decide) ?_
  refine W.widen (k := 1000) (n := 100000) (Nat.le_of_ble_eq_true rfl) (Nat.le_of_ble_eq_true rfl) ?_
  exact kk _ _ _ hh.2.2.2.1 (lv_sub hl [7, 2] rfl)
set_option maxHeartbeats 4000000 in
set_option maxRecDepth 100000 in
theorem law_29 {p : Program} {l : Launch} {e : Env} {s : State} {m : MethodId} {below : List Frame} {meth : Method} {c : Code} {Q : State → Prop} {b : Nat} {xs : Nat → Int32} {D : va_G} {e0 : kE} {A : Nat → Prop} (hst : l.stackTraces = false) (hx : p.tables.exec = Jvm.exec) (hb : c.code = cL_law) (hml : c.maxLocals = 9) (hts : ∀ w ∈ lw_tbl, w.before #[Value.ref b] s = true) (hown : s.vm.findClass RL = some m.cls) (hX : va_X b 5 xs s s.heap) (hbl : b < s.heap.size) (hbA : ¬ A b) {xa x1 x2 x3 x4 x5 g1 g2 g3 g4 h1 h2 h3 h4 h5 ma m1 m2 m3 m4 m5 m6 m7 m8 o1 o2 : Nat} {z1 z2 z3 z4 : ClassId}  {H : Heap} {locs : List Loc} {ls : Array Slot} (hh : kH D kStr e0 A s H (lwW e0 xa x1 x2 x3 x4 x5 g1 g2 g3 g4 h1 h2 h3 h4 h5 ma m1 m2 m3 m4 m5 m6 m7 m8 o1 o2 z1 z2 z3 z4) (lwT z1 z2 z3 z4) locs) (hl : lv_has ls 9 (lwL b xa ma o1 o2)) (kk : lwK p l e s m below meth c Q b A) : W p l e room_1 s m #[Value.ref b] below meth c H locs 100 10000 Q (F0 m 2104 ls []) := by
  have hh : kH D kStr e0 A s H [(xa, .inr (11, [.ref x1, .int 0, .ref x2, .int 0, .ref x3, .ref x4, .ref x5, .int 0])), (x4, .inr (8, [.ref h1, .ref h2, .int 0, .ref h3, .int 0, .ref h4, .int 0, .ref h5, .int 0, .int 0, .int 0])), (ma, .inr (16, [.int 0, .ref m1, .ref m2, .ref m3, .ref m4, .ref m5, .ref m6, .ref m7, .ref m8, .int 0, .int 0])), (m6, .inr (4, [.int 0, .ref e0.1, .int 0])), (o1, .inl (z3, 1, .inr (.inl (fun _ => 0))))] [(z3, .long)] _ := hh.sub [0, 2, 5, 11, 14] [2] rfl rfl rfl
  have hl : lv_has ls 9 [(5, .int 0), (4, .ref o2), (3, .ref o1), (2, .ref ma), (1, .ref xa), (0, .ref b)] := hl
  refine lv_aload_n hx hb dL_law_2104 rfl (lv_at hl 4 rfl) ?_
  refine lv_aload_n hx hb dL_law_2105 rfl (lv_at hl 5 rfl) ?_
  refine lv_iload hx hb dL_law_2106 (lv_at hl 0 rfl) ?_
  refine lv_iconst (v := 1) hx hb dL_law_2108 (by decide) ?_
  refine lv_iadd hx hb dL_law_2109 ?_
  refine W.eq (g2 := F0 m 2110 ls [.int 1, .ref b, .ref xa]) (by first | rfl | decide) ?_
  refine va_sld hx hb hX hbl hbA hh.2.2.2.1 (by unfold vp_in; decide) dL_law_2110 ?_
  refine W.eq (g2 := F0 m 2111 ls [.int (xs 1), .ref xa]) rfl ?_
  refine lv_aload_n hx hb dL_law_2111 rfl (lv_at hl 2 rfl) ?_
  refine k_callSX (wr := [(ma, .inr (16, [.int 0, .ref m1, .ref m2, .ref m3, .ref m4, .ref m5, .ref m6, .ref m7, .ref m8, .int 0, .int 0])), (m6, .inr (4, [.int 0, .ref e0.1, .int 0]))]) (rest := []) (own := RL) ⟨hx, hb, hml, hown, hts⟩ (c_L_stamper l hst D e0 xa x1 x2 x3 x4 x5 h1 h2 h3 h4 h5 ((xs 1)) o1 z3 ((fun _ => 0)) ) (vx_cwSW 3 hts gl_S_c_L_stamper rfl rfl rfl (by decide +kernel) ⟨Nat.le_of_ble_eq_true rfl, Nat.le_of_ble_eq_true rfl⟩) hh [0, 1, 4] [2, 3] [0] rfl rfl rfl rfl (by decide) rfl rfl hl rfl (Nat.le_of_ble_eq_true rfl) dL_law_2112 ⟨Nat.le_of_ble_eq_true rfl, (Nat.le_of_ble_eq_true rfl)⟩ (fun _ _ _ _ _ h => h.elim) (fun v w ty1 H locs hp hh => ?_)
  obtain ⟨rfl, rfl, rfl⟩ := hp
  have hh : kH D kStr e0 A s H [(ma, .inr (16, [.int 0, .ref m1, .ref m2, .ref m3, .ref m4, .ref m5, .ref m6, .ref m7, .ref m8, .int 0, .int 0])), (m6, .inr (4, [.int 0, .ref e0.1, .int 0])), (o1, .inl (z3, 1, .inr (.inl (fun _ => 0))))] [(z3, .long), (z3, .long)] _ := hh
  refine W.eq (g2 := F0 m 2115 ls [.int 1]) (by first | rfl | decide) ?_
  refine lv_istore (lv' := [(6, .int 1), (5, .int 0), (4, .ref o2), (3, .ref o1), (2, .ref ma), (1, .ref xa), (0, .ref b)]) hx hb dL_law_2115 hl (by decide) rfl (fun ls hl => ?_)
  refine lv_aload_n hx hb dL_law_2117 rfl (lv_at hl 4 rfl) ?_
  refine lv_aload_n hx hb dL_law_2118 rfl (lv_at hl 6 rfl) ?_
  refine lv_iload hx hb dL_law_2119 (lv_at hl 1 rfl) ?_
  refine lv_iconst (v := 1) hx hb dL_law_2121 (by decide) ?_
  refine lv_iadd hx hb dL_law_2122 ?_
  refine W.eq (g2 := F0 m 2123 ls [.int 1, .ref b, .ref ma]) (by first | rfl | decide) ?_
  refine va_sld hx hb hX hbl hbA hh.2.2.2.1 (by unfold vp_in; decide) dL_law_2123 ?_
  refine W.eq (g2 := F0 m 2124 ls [.int (xs 1), .ref ma]) rfl ?_
  refine k_callV (C := RX11) (T := TX11) (N := 11) (ci := 16) (q0 := 0) (wr := [(o1, .inl (z3, 1, .inr (.inl (fun _ => 0))))]) (rest := []) (own := RL) ⟨hx, hb, hml, hown, hts⟩ (c_X11_stamper l hst D e0 ma 0 m1 m2 m3 m4 m5 m6 m7 m8 ((xs 1)) ) (cwV 1 hts gl_V_c_X11_stamper rfl rfl rfl (by decide +kernel) ⟨Nat.le_of_ble_eq_true rfl, Nat.le_of_ble_eq_true rfl⟩) hh rfl rfl [0, 1] [2] [] rfl rfl rfl rfl (by decide) rfl rfl hl rfl (Nat.le_of_ble_eq_true rfl) dL_law_2124 ⟨Nat.le_of_ble_eq_true rfl, (Nat.le_of_ble_eq_true rfl)⟩ (fun _ _ _ _ _ h => h.elim) (fun v w ty1 H locs hp hh => ?_)
  obtain ⟨rfl, rfl, rfl⟩ := hp
  have hh : kH D kStr e0 A s H [(o1, .inl (z3, 1, .inr (.inl (fun _ => 0)))), (ma, .inr (16, [.int 1, .ref m1, .ref m2, .ref m3, .ref m4, .ref m5, .ref m6, .ref m7, .ref m8, .int 0, .int 0]))] [(z3, .long), (z3, .long)] _ := hh
  refine W.eq (g2 := F0 m 2127 ls [.int 0]) (by first | rfl | decide) ?_
  refine lv_istore (lv' := [(7, .int 0), (6, .int 1), (5, .int 0), (4, .ref o2), (3, .ref o1), (2, .ref ma), (1, .ref xa), (0, .ref b)]) hx hb dL_law_2127 hl (by decide) rfl (fun ls hl => ?_)
  refine lv_aload_n hx hb dL_law_2129 rfl (lv_at hl 5 rfl) ?_
  refine k_callV (C := RX11) (T := TX11) (N := 11) (ci := 16) (q0 := 1) (wr := [(o1, .inl (z3, 1, .inr (.inl (fun _ => 0))))]) (rest := []) (own := RL) ⟨hx, hb, hml, hown, hts⟩ (c_X11_thrown l hst D e0 ma 1 m1 m2 m3 m4 m5 m6 m7 m8 ) (cwV 0 hts gl_V_c_X11_thrown rfl rfl rfl (by decide +kernel) ⟨Nat.le_of_ble_eq_true rfl, Nat.le_of_ble_eq_true rfl⟩) hh rfl rfl [1] [0] [] rfl rfl rfl rfl (by decide) rfl rfl hl rfl (Nat.le_of_ble_eq_true rfl) dL_law_2130 ⟨Nat.le_of_ble_eq_true rfl, (Nat.le_of_ble_eq_true rfl)⟩ (fun _ _ _ _ _ h => h.elim) (fun v w ty1 H locs hp hh => ?_)
  obtain ⟨rfl, rfl, rfl⟩ := hp
  have hh : kH D kStr e0 A s H [(o1, .inl (z3, 1, .inr (.inl (fun _ => 0)))), (ma, .inr (16, [.int 1, .ref m1, .ref m2, .ref m3, .ref m4, .ref m5, .ref m6, .ref m7, .ref m8, .int 0, .int 0]))] [(z3, .long), (z3, .long)] _ := hh
  refine W.eq (g2 := F0 m 2133 ls [.int 1]) (by first | rfl | decide) ?_
  refine lv_iload hx hb dL_law_2133 (lv_at hl 1 rfl) ?_
  refine lv_icmp_eq (tgt := 2140) hx hb dL_law_2135 (by decide) (fun _ => ?_) (fun c_2135 => absurd (by decide) c_2135)
  refine lv_iload hx hb dL_law_2140 (lv_at hl 1 rfl) ?_
  refine lv_if_ne (tgt := 2157) hx hb dL_law_2142 (by decide) (fun _ => ?_) (fun c_2142 => absurd c_2142 (by decide))
  refine lv_goto (tgt := 3429) hx hb dL_law_2157 (by decide) ?_
  refine W.widen (k := 1000) (n := 100000) (Nat.le_of_ble_eq_true rfl) (Nat.le_of_ble_eq_true rfl) ?_
  exact kk _ _ _ hh.2.2.2.1 (lv_sub hl [7, 2] rfl)
set_option maxHeartbeats 4000000 in
set_option maxRecDepth 100000 in
theorem law_30 {p : Program} {l : Launch} {e : Env} {s : State} {m : MethodId} {below : List Frame} {meth : Method} {c : Code} {Q : State → Prop} {b : Nat} {xs : Nat → Int32} {D : va_G} {e0 : kE} {A : Nat → Prop} (hst : l.stackTraces = false) (hx : p.tables.exec = Jvm.exec) (hb : c.code = cL_law) (hml : c.maxLocals = 9) (hts : ∀ w ∈ lw_tbl, w.before #[Value.ref b] s = true) (hown : s.vm.findClass RL = some m.cls) (hX : va_X b 5 xs s s.heap) (hbl : b < s.heap.size) (hbA : ¬ A b) {xa x1 x2 x3 x4 x5 g1 g2 g3 g4 h1 h2 h3 h4 h5 ma m1 m2 m3 m4 m5 m6 m7 m8 o1 o2 : Nat} {z1 z2 z3 z4 : ClassId}  {H : Heap} {locs : List Loc} {ls : Array Slot} (hh : kH D kStr e0 A s H (lwW e0 xa x1 x2 x3 x4 x5 g1 g2 g3 g4 h1 h2 h3 h4 h5 ma m1 m2 m3 m4 m5 m6 m7 m8 o1 o2 z1 z2 z3 z4) (lwT z1 z2 z3 z4) locs) (hl : lv_has ls 9 (lwL b xa ma o1 o2)) (kk : lwK p l e s m below meth c Q b A) : W p l e room_1 s m #[Value.ref b] below meth c H locs 100 10000 Q (F0 m 2160 ls []) := by
  have hh : kH D kStr e0 A s H [(xa, .inr (11, [.ref x1, .int 0, .ref x2, .int 0, .ref x3, .ref x4, .ref x5, .int 0])), (x4, .inr (8, [.ref h1, .ref h2, .int 0, .ref h3, .int 0, .ref h4, .int 0, .ref h5, .int 0, .int 0, .int 0])), (ma, .inr (16, [.int 0, .ref m1, .ref m2, .ref m3, .ref m4, .ref m5, .ref m6, .ref m7, .ref m8, .int 0, .int 0])), (m7, .inr (4, [.int 0, .ref e0.1, .int 0])), (o1, .inl (z3, 1, .inr (.inl (fun _ => 0))))] [(z3, .long)] _ := hh.sub [0, 2, 5, 12, 14] [2] rfl rfl rfl
  have hl : lv_has ls 9 [(5, .int 0), (4, .ref o2), (3, .ref o1), (2, .ref ma), (1, .ref xa), (0, .ref b)] := hl
  refine lv_aload_n hx hb dL_law_2160 rfl (lv_at hl 4 rfl) ?_
  refine lv_aload_n hx hb dL_law_2161 rfl (lv_at hl 5 rfl) ?_
  refine lv_iload hx hb dL_law_2162 (lv_at hl 0 rfl) ?_
  refine lv_iconst (v := 1) hx hb dL_law_2164 (by decide) ?_
  refine lv_iadd hx hb dL_law_2165 ?_
  refine W.eq (g2 := F0 m 2166 ls [.int 1, .ref b, .ref xa]) (by first | rfl | decide) ?_
  refine va_sld hx hb hX hbl hbA hh.2.2.2.1 (by unfold vp_in; decide) dL_law_2166 ?_
  refine W.eq (g2 := F0 m 2167 ls [.int (xs 1), .ref xa]) rfl ?_
  refine lv_aload_n hx hb dL_law_2167 rfl (lv_at hl 5 rfl) ?_
  refine lv_iload hx hb dL_law_2168 (lv_at hl 0 rfl) ?_
  refine lv_iconst (v := 2) hx hb dL_law_2170 (by decide) ?_
  refine lv_iadd hx hb dL_law_2171 ?_
  refine W.eq (g2 := F0 m 2172 ls [.int 2, .ref b, .int (xs 1), .ref xa]) (by first | rfl | decide) ?_
  refine va_sld hx hb hX hbl hbA hh.2.2.2.1 (by unfold vp_in; decide) dL_law_2172 ?_
  refine W.eq (g2 := F0 m 2173 ls [.int (xs 2), .int (xs 1), .ref xa]) rfl ?_
  refine lv_aload_n hx hb dL_law_2173 rfl (lv_at hl 2 rfl) ?_
  refine k_callSX (wr := [(ma, .inr (16, [.int 0, .ref m1, .ref m2, .ref m3, .ref m4, .ref m5, .ref m6, .ref m7, .ref m8, .int 0, .int 0])), (m7, .inr (4, [.int 0, .ref e0.1, .int 0]))]) (rest := []) (own := RL) ⟨hx, hb, hml, hown, hts⟩ (c_L_press l hst D e0 xa x1 x2 x3 x4 x5 h1 h2 h3 h4 h5 ((xs 1)) ((xs 2)) o1 z3 ((fun _ => 0)) ) (vx_cwSW 4 hts gl_S_c_L_press rfl rfl rfl (by decide +kernel) ⟨Nat.le_of_ble_eq_true rfl, Nat.le_of_ble_eq_true rfl⟩) hh [0, 1, 4] [2, 3] [0] rfl rfl rfl rfl (by decide) rfl rfl hl rfl (Nat.le_of_ble_eq_true rfl) dL_law_2174 ⟨Nat.le_of_ble_eq_true rfl, (Nat.le_of_ble_eq_true rfl)⟩ (fun _ _ _ _ _ h => h.elim) (fun v w ty1 H locs hp hh => ?_)
  obtain ⟨rfl, rfl, rfl⟩ := hp
  have hh : kH D kStr e0 A s H [(ma, .inr (16, [.int 0, .ref m1, .ref m2, .ref m3, .ref m4, .ref m5, .ref m6, .ref m7, .ref m8, .int 0, .int 0])), (m7, .inr (4, [.int 0, .ref e0.1, .int 0])), (o1, .inl (z3, 1, .inr (.inl (fun _ => 0))))] [(z3, .long), (z3, .long)] _ := hh
  refine W.eq (g2 := F0 m 2177 ls [.int 1]) (by first | rfl | decide) ?_
  refine lv_istore (lv' := [(6, .int 1), (5, .int 0), (4, .ref o2), (3, .ref o1), (2, .ref ma), (1, .ref xa), (0, .ref b)]) hx hb dL_law_2177 hl (by decide) rfl (fun ls hl => ?_)
  refine lv_aload_n hx hb dL_law_2179 rfl (lv_at hl 4 rfl) ?_
  refine lv_aload_n hx hb dL_law_2180 rfl (lv_at hl 6 rfl) ?_
  refine lv_iload hx hb dL_law_2181 (lv_at hl 1 rfl) ?_
  refine lv_iconst (v := 1) hx hb dL_law_2183 (by decide) ?_
  refine lv_iadd hx hb dL_law_2184 ?_
  refine W.eq (g2 := F0 m 2185 ls [.int 1, .ref b, .ref ma]) (by first | rfl | decide) ?_
  refine va_sld hx hb hX hbl hbA hh.2.2.2.1 (by unfold vp_in; decide) dL_law_2185 ?_
  refine W.eq (g2 := F0 m 2186 ls [.int (xs 1), .ref ma]) rfl ?_
  refine lv_aload_n hx hb dL_law_2186 rfl (lv_at hl 6 rfl) ?_
  refine lv_iload hx hb dL_law_2187 (lv_at hl 1 rfl) ?_
  refine lv_iconst (v := 2) hx hb dL_law_2189 (by decide) ?_
  refine lv_iadd hx hb dL_law_2190 ?_
  refine W.eq (g2 := F0 m 2191 ls [.int 2, .ref b, .int (xs 1), .ref ma]) (by first | rfl | decide) ?_
  refine va_sld hx hb hX hbl hbA hh.2.2.2.1 (by unfold vp_in; decide) dL_law_2191 ?_
  refine W.eq (g2 := F0 m 2192 ls [.int (xs 2), .int (xs 1), .ref ma]) rfl ?_
  refine k_callV (C := RX11) (T := TX11) (N := 11) (ci := 16) (q0 := 0) (wr := [(o1, .inl (z3, 1, .inr (.inl (fun _ => 0))))]) (rest := []) (own := RL) ⟨hx, hb, hml, hown, hts⟩ (c_X11_press l hst D e0 ma 0 m1 m2 m3 m4 m5 m6 m7 m8 ((xs 1)) ((xs 2)) ) (cwV 2 hts gl_V_c_X11_press rfl rfl rfl (by decide +kernel) ⟨Nat.le_of_ble_eq_true rfl, Nat.le_of_ble_eq_true rfl⟩) hh rfl rfl [0, 1] [2] [] rfl rfl rfl rfl (by decide) rfl rfl hl rfl (Nat.le_of_ble_eq_true rfl) dL_law_2192 ⟨Nat.le_of_ble_eq_true rfl, (Nat.le_of_ble_eq_true rfl)⟩ (fun _ _ _ _ _ h => h.elim) (fun v w ty1 H locs hp hh => ?_)
  obtain ⟨rfl, rfl, rfl⟩ := hp
  have hh : kH D kStr e0 A s H [(o1, .inl (z3, 1, .inr (.inl (fun _ => 0)))), (ma, .inr (16, [.int 1, .ref m1, .ref m2, .ref m3, .ref m4, .ref m5, .ref m6, .ref m7, .ref m8, .int 0, .int 0]))] [(z3, .long), (z3, .long)] _ := hh
  refine W.eq (g2 := F0 m 2195 ls [.int 0]) (by first | rfl | decide) ?_
  refine lv_istore (lv' := [(7, .int 0), (6, .int 1), (5, .int 0), (4, .ref o2), (3, .ref o1), (2, .ref ma), (1, .ref xa), (0, .ref b)]) hx hb dL_law_2195 hl (by decide) rfl (fun ls hl => ?_)
  refine lv_aload_n hx hb dL_law_2197 rfl (lv_at hl 5 rfl) ?_
  refine k_callV (C := RX11) (T := TX11) (N := 11) (ci := 16) (q0 := 1) (wr := [(o1, .inl (z3, 1, .inr (.inl (fun _ => 0))))]) (rest := []) (own := RL) ⟨hx, hb, hml, hown, hts⟩ (c_X11_thrown l hst D e0 ma 1 m1 m2 m3 m4 m5 m6 m7 m8 ) (cwV 0 hts gl_V_c_X11_thrown rfl rfl rfl (by decide +kernel) ⟨Nat.le_of_ble_eq_true rfl, Nat.le_of_ble_eq_true rfl⟩) hh rfl rfl [1] [0] [] rfl rfl rfl rfl (by decide) rfl rfl hl rfl (Nat.le_of_ble_eq_true rfl) dL_law_2198 ⟨Nat.le_of_ble_eq_true rfl, (Nat.le_of_ble_eq_true rfl)⟩ (fun _ _ _ _ _ h => h.elim) (fun v w ty1 H locs hp hh => ?_)
  obtain ⟨rfl, rfl, rfl⟩ := hp
  have hh : kH D kStr e0 A s H [(o1, .inl (z3, 1, .inr (.inl (fun _ => 0)))), (ma, .inr (16, [.int 1, .ref m1, .ref m2, .ref m3, .ref m4, .ref m5, .ref m6, .ref m7, .ref m8, .int 0, .int 0]))] [(z3, .long), (z3, .long)] _ := hh
  refine W.eq (g2 := F0 m 2201 ls [.int 1]) (by first | rfl | decide) ?_
  refine lv_iload hx hb dL_law_2201 (lv_at hl 1 rfl) ?_
  refine lv_icmp_eq (tgt := 2208) hx hb dL_law_2203 (by decide) (fun _ => ?_) (fun c_2203 => absurd (by decide) c_2203)
  refine lv_iload hx hb dL_law_2208 (lv_at hl 1 rfl) ?_
  refine lv_if_ne (tgt := 2225) hx hb dL_law_2210 (by decide) (fun _ => ?_) (fun c_2210 => absurd c_2210 (by decide))
  refine lv_goto (tgt := 3429) hx hb dL_law_2225 (by decide) ?_
  refine W.widen (k := 1000) (n := 100000) (Nat.le_of_ble_eq_true rfl) (Nat.le_of_ble_eq_true rfl) ?_
  exact kk _ _ _ hh.2.2.2.1 (lv_sub hl [7, 2] rfl)
set_option maxHeartbeats 4000000 in
set_option maxRecDepth 100000 in
theorem law_32 {p : Program} {l : Launch} {e : Env} {s : State} {m : MethodId} {below : List Frame} {meth : Method} {c : Code} {Q : State → Prop} {b : Nat} {xs : Nat → Int32} {D : va_G} {e0 : kE} {A : Nat → Prop} (hst : l.stackTraces = false) (hx : p.tables.exec = Jvm.exec) (hb : c.code = cL_law) (hml : c.maxLocals = 9) (hts : ∀ w ∈ lw_tbl, w.before #[Value.ref b] s = true) (hown : s.vm.findClass RL = some m.cls) (hX : va_X b 5 xs s s.heap) (hbl : b < s.heap.size) (hbA : ¬ A b) {xa x1 x2 x3 x4 x5 g1 g2 g3 g4 h1 h2 h3 h4 h5 ma m1 m2 m3 m4 m5 m6 m7 m8 o1 o2 : Nat} {z1 z2 z3 z4 : ClassId}  {H : Heap} {locs : List Loc} {ls : Array Slot} (hh : kH D kStr e0 A s H (lwW e0 xa x1 x2 x3 x4 x5 g1 g2 g3 g4 h1 h2 h3 h4 h5 ma m1 m2 m3 m4 m5 m6 m7 m8 o1 o2 z1 z2 z3 z4) (lwT z1 z2 z3 z4) locs) (hl : lv_has ls 9 (lwL b xa ma o1 o2)) (kk : lwK p l e s m below meth c Q b A) : W p l e room_1 s m #[Value.ref b] below meth c H locs 100 10000 Q (F0 m 2284 ls []) := by
  have hh : kH D kStr e0 A s H [(xa, .inr (11, [.ref x1, .int 0, .ref x2, .int 0, .ref x3, .ref x4, .ref x5, .int 0])), (ma, .inr (16, [.int 0, .ref m1, .ref m2, .ref m3, .ref m4, .ref m5, .ref m6, .ref m7, .ref m8, .int 0, .int 0])), (m8, .inr (4, [.int 0, .ref e0.1, .int 0])), (o1, .inl (z3, 1, .inr (.inl (fun _ => 0))))] [(z3, .long)] _ := hh.sub [0, 5, 13, 14] [2] rfl rfl rfl
  have hl : lv_has ls 9 [(5, .int 0), (4, .ref o2), (3, .ref o1), (2, .ref ma), (1, .ref xa), (0, .ref b)] := hl
  refine lv_aload_n hx hb dL_law_2284 rfl (lv_at hl 4 rfl) ?_
  refine lv_aload_n hx hb dL_law_2285 rfl (lv_at hl 5 rfl) ?_
  refine lv_iload hx hb dL_law_2286 (lv_at hl 0 rfl) ?_
  refine lv_iconst (v := 1) hx hb dL_law_2288 (by decide) ?_
  refine lv_iadd hx hb dL_law_2289 ?_
  refine W.eq (g2 := F0 m 2290 ls [.int 1, .ref b, .ref xa]) (by first | rfl | decide) ?_
  refine va_sld hx hb hX hbl hbA hh.2.2.2.1 (by unfold vp_in; decide) dL_law_2290 ?_
  refine W.eq (g2 := F0 m 2291 ls [.int (xs 1), .ref xa]) rfl ?_
  refine lv_aload_n hx hb dL_law_2291 rfl (lv_at hl 5 rfl) ?_
  refine lv_iload hx hb dL_law_2292 (lv_at hl 0 rfl) ?_
  refine lv_iconst (v := 2) hx hb dL_law_2294 (by decide) ?_
  refine lv_iadd hx hb dL_law_2295 ?_
  refine W.eq (g2 := F0 m 2296 ls [.int 2, .ref b, .int (xs 1), .ref xa]) (by first | rfl | decide) ?_
  refine va_sld hx hb hX hbl hbA hh.2.2.2.1 (by unfold vp_in; decide) dL_law_2296 ?_
  refine W.eq (g2 := F0 m 2297 ls [.int (xs 2), .int (xs 1), .ref xa]) rfl ?_
  refine lv_aload_n hx hb dL_law_2297 rfl (lv_at hl 2 rfl) ?_
  refine k_callSX (wr := [(ma, .inr (16, [.int 0, .ref m1, .ref m2, .ref m3, .ref m4, .ref m5, .ref m6, .ref m7, .ref m8, .int 0, .int 0])), (m8, .inr (4, [.int 0, .ref e0.1, .int 0]))]) (rest := []) (own := RL) ⟨hx, hb, hml, hown, hts⟩ (c_L_editionAt l hst D e0 xa x1 x2 x3 x4 x5 ((xs 1)) ((xs 2)) o1 z3 ((fun _ => 0)) ) (vx_cwSW 4 hts gl_S_c_L_editionAt rfl rfl rfl (by decide +kernel) ⟨Nat.le_of_ble_eq_true rfl, Nat.le_of_ble_eq_true rfl⟩) hh [0, 3] [1, 2] [0] rfl rfl rfl rfl (by decide) rfl rfl hl rfl (Nat.le_of_ble_eq_true rfl) dL_law_2298 ⟨Nat.le_of_ble_eq_true rfl, (Nat.le_of_ble_eq_true rfl)⟩ (fun _ _ _ _ _ h => h.elim) (fun v w ty1 H locs hp hh => ?_)
  obtain ⟨rfl, rfl, rfl⟩ := hp
  have hh : kH D kStr e0 A s H [(ma, .inr (16, [.int 0, .ref m1, .ref m2, .ref m3, .ref m4, .ref m5, .ref m6, .ref m7, .ref m8, .int 0, .int 0])), (m8, .inr (4, [.int 0, .ref e0.1, .int 0])), (o1, .inl (z3, 1, .inr (.inl (fun _ => 0))))] [(z3, .long), (z3, .long)] _ := hh
  refine W.eq (g2 := F0 m 2301 ls [.int 1]) (by first | rfl | decide) ?_
  refine lv_istore (lv' := [(6, .int 1), (5, .int 0), (4, .ref o2), (3, .ref o1), (2, .ref ma), (1, .ref xa), (0, .ref b)]) hx hb dL_law_2301 hl (by decide) rfl (fun ls hl => ?_)
  refine lv_aload_n hx hb dL_law_2303 rfl (lv_at hl 4 rfl) ?_
  refine lv_aload_n hx hb dL_law_2304 rfl (lv_at hl 6 rfl) ?_
  refine lv_iload hx hb dL_law_2305 (lv_at hl 1 rfl) ?_
  refine lv_iconst (v := 1) hx hb dL_law_2307 (by decide) ?_
  refine lv_iadd hx hb dL_law_2308 ?_
  refine W.eq (g2 := F0 m 2309 ls [.int 1, .ref b, .ref ma]) (by first | rfl | decide) ?_
  refine va_sld hx hb hX hbl hbA hh.2.2.2.1 (by unfold vp_in; decide) dL_law_2309 ?_
  refine W.eq (g2 := F0 m 2310 ls [.int (xs 1), .ref ma]) rfl ?_
  refine lv_aload_n hx hb dL_law_2310 rfl (lv_at hl 6 rfl) ?_
  refine lv_iload hx hb dL_law_2311 (lv_at hl 1 rfl) ?_
  refine lv_iconst (v := 2) hx hb dL_law_2313 (by decide) ?_
  refine lv_iadd hx hb dL_law_2314 ?_
  refine W.eq (g2 := F0 m 2315 ls [.int 2, .ref b, .int (xs 1), .ref ma]) (by first | rfl | decide) ?_
  refine va_sld hx hb hX hbl hbA hh.2.2.2.1 (by unfold vp_in; decide) dL_law_2315 ?_
  refine W.eq (g2 := F0 m 2316 ls [.int (xs 2), .int (xs 1), .ref ma]) rfl ?_
  refine k_callV (C := RX11) (T := TX11) (N := 11) (ci := 16) (q0 := 0) (wr := [(o1, .inl (z3, 1, .inr (.inl (fun _ => 0))))]) (rest := []) (own := RL) ⟨hx, hb, hml, hown, hts⟩ (c_X11_editionAt l hst D e0 ma 0 m1 m2 m3 m4 m5 m6 m7 m8 ((xs 1)) ((xs 2)) ) (cwV 2 hts gl_V_c_X11_editionAt rfl rfl rfl (by decide +kernel) ⟨Nat.le_of_ble_eq_true rfl, Nat.le_of_ble_eq_true rfl⟩) hh rfl rfl [0, 1] [2] [] rfl rfl rfl rfl (by decide) rfl rfl hl rfl (Nat.le_of_ble_eq_true rfl) dL_law_2316 ⟨Nat.le_of_ble_eq_true rfl, (Nat.le_of_ble_eq_true rfl)⟩ (fun _ _ _ _ _ h => h.elim) (fun v w ty1 H locs hp hh => ?_)
  obtain ⟨rfl, rfl, rfl⟩ := hp
  have hh : kH D kStr e0 A s H [(o1, .inl (z3, 1, .inr (.inl (fun _ => 0)))), (ma, .inr (16, [.int 1, .ref m1, .ref m2, .ref m3, .ref m4, .ref m5, .ref m6, .ref m7, .ref m8, .int 0, .int 0]))] [(z3, .long), (z3, .long)] _ := hh
  refine W.eq (g2 := F0 m 2319 ls [.int 0]) (by first | rfl | decide) ?_
  refine lv_istore (lv' := [(7, .int 0), (6, .int 1), (5, .int 0), (4, .ref o2), (3, .ref o1), (2, .ref ma), (1, .ref xa), (0, .ref b)]) hx hb dL_law_2319 hl (by decide) rfl (fun ls hl => ?_)
  refine lv_aload_n hx hb dL_law_2321 rfl (lv_at hl 5 rfl) ?_
  refine k_callV (C := RX11) (T := TX11) (N := 11) (ci := 16) (q0 := 1) (wr := [(o1, .inl (z3, 1, .inr (.inl (fun _ => 0))))]) (rest := []) (own := RL) ⟨hx, hb, hml, hown, hts⟩ (c_X11_thrown l hst D e0 ma 1 m1 m2 m3 m4 m5 m6 m7 m8 ) (cwV 0 hts gl_V_c_X11_thrown rfl rfl rfl (by decide +kernel) ⟨Nat.le_of_ble_eq_true rfl, Nat.le_of_ble_eq_true rfl⟩) hh rfl rfl [1] [0] [] rfl rfl rfl rfl (by decide) rfl rfl hl rfl (Nat.le_of_ble_eq_true rfl) dL_law_2322 ⟨Nat.le_of_ble_eq_true rfl, (Nat.le_of_ble_eq_true rfl)⟩ (fun _ _ _ _ _ h => h.elim) (fun v w ty1 H locs hp hh => ?_)
  obtain ⟨rfl, rfl, rfl⟩ := hp
  have hh : kH D kStr e0 A s H [(o1, .inl (z3, 1, .inr (.inl (fun _ => 0)))), (ma, .inr (16, [.int 1, .ref m1, .ref m2, .ref m3, .ref m4, .ref m5, .ref m6, .ref m7, .ref m8, .int 0, .int 0]))] [(z3, .long), (z3, .long)] _ := hh
  refine W.eq (g2 := F0 m 2325 ls [.int 1]) (by first | rfl | decide) ?_
  refine lv_iload hx hb dL_law_2325 (lv_at hl 1 rfl) ?_
  refine lv_icmp_eq (tgt := 2332) hx hb dL_law_2327 (by decide) (fun _ => ?_) (fun c_2327 => absurd (by decide) c_2327)
  refine lv_iload hx hb dL_law_2332 (lv_at hl 1 rfl) ?_
  refine lv_if_ne (tgt := 2349) hx hb dL_law_2334 (by decide) (fun _ => ?_) (fun c_2334 => absurd c_2334 (by decide))
  refine lv_goto (tgt := 3429) hx hb dL_law_2349 (by decide) ?_
  refine W.widen (k := 1000) (n := 100000) (Nat.le_of_ble_eq_true rfl) (Nat.le_of_ble_eq_true rfl) ?_
  exact kk _ _ _ hh.2.2.2.1 (lv_sub hl [7, 2] rfl)
set_option maxHeartbeats 4000000 in
set_option maxRecDepth 100000 in
theorem law_33 {p : Program} {l : Launch} {e : Env} {s : State} {m : MethodId} {below : List Frame} {meth : Method} {c : Code} {Q : State → Prop} {b : Nat} {xs : Nat → Int32} {D : va_G} {e0 : kE} {A : Nat → Prop} (hst : l.stackTraces = false) (hx : p.tables.exec = Jvm.exec) (hb : c.code = cL_law) (hml : c.maxLocals = 9) (hts : ∀ w ∈ lw_tbl, w.before #[Value.ref b] s = true) (hown : s.vm.findClass RL = some m.cls) (hX : va_X b 5 xs s s.heap) (hbl : b < s.heap.size) (hbA : ¬ A b) {xa x1 x2 x3 x4 x5 g1 g2 g3 g4 h1 h2 h3 h4 h5 ma m1 m2 m3 m4 m5 m6 m7 m8 o1 o2 : Nat} {z1 z2 z3 z4 : ClassId}  {H : Heap} {locs : List Loc} {ls : Array Slot} (hh : kH D kStr e0 A s H (lwW e0 xa x1 x2 x3 x4 x5 g1 g2 g3 g4 h1 h2 h3 h4 h5 ma m1 m2 m3 m4 m5 m6 m7 m8 o1 o2 z1 z2 z3 z4) (lwT z1 z2 z3 z4) locs) (hl : lv_has ls 9 (lwL b xa ma o1 o2)) (kk : lwK p l e s m below meth c Q b A) : W p l e room_1 s m #[Value.ref b] below meth c H locs 100 10000 Q (F0 m 2352 ls []) := by
  have hh : kH D kStr e0 A s H [(xa, .inr (11, [.ref x1, .int 0, .ref x2, .int 0, .ref x3, .ref x4, .ref x5, .int 0])), (ma, .inr (16, [.int 0, .ref m1, .ref m2, .ref m3, .ref m4, .ref m5, .ref m6, .ref m7, .ref m8, .int 0, .int 0])), (m8, .inr (4, [.int 0, .ref e0.1, .int 0])), (o1, .inl (z3, 1, .inr (.inl (fun _ => 0))))] [(z3, .long)] _ := hh.sub [0, 5, 13, 14] [2] rfl rfl rfl
  have hl : lv_has ls 9 [(5, .int 0), (4, .ref o2), (3, .ref o1), (2, .ref ma), (1, .ref xa), (0, .ref b)] := hl
  refine lv_aload_n hx hb dL_law_2352 rfl (lv_at hl 4 rfl) ?_
  refine lv_aload_n hx hb dL_law_2353 rfl (lv_at hl 5 rfl) ?_
  refine lv_iload hx hb dL_law_2354 (lv_at hl 0 rfl) ?_
  refine lv_iconst (v := 1) hx hb dL_law_2356 (by decide) ?_
  refine lv_iadd hx hb dL_law_2357 ?_
  refine W.eq (g2 := F0 m 2358 ls [.int 1, .ref b, .ref xa]) (by first | rfl | decide) ?_
  refine va_sld hx hb hX hbl hbA hh.2.2.2.1 (by unfold vp_in; decide) dL_law_2358 ?_
  refine W.eq (g2 := F0 m 2359 ls [.int (xs 1), .ref xa]) rfl ?_
  refine lv_aload_n hx hb dL_law_2359 rfl (lv_at hl 5 rfl) ?_
  refine lv_iload hx hb dL_law_2360 (lv_at hl 0 rfl) ?_
  refine lv_iconst (v := 2) hx hb dL_law_2362 (by decide) ?_
  refine lv_iadd hx hb dL_law_2363 ?_
  refine W.eq (g2 := F0 m 2364 ls [.int 2, .ref b, .int (xs 1), .ref xa]) (by first | rfl | decide) ?_
  refine va_sld hx hb hX hbl hbA hh.2.2.2.1 (by unfold vp_in; decide) dL_law_2364 ?_
  refine W.eq (g2 := F0 m 2365 ls [.int (xs 2), .int (xs 1), .ref xa]) rfl ?_
  refine lv_aload_n hx hb dL_law_2365 rfl (lv_at hl 2 rfl) ?_
  refine k_callSX (wr := [(ma, .inr (16, [.int 0, .ref m1, .ref m2, .ref m3, .ref m4, .ref m5, .ref m6, .ref m7, .ref m8, .int 0, .int 0])), (m8, .inr (4, [.int 0, .ref e0.1, .int 0]))]) (rest := []) (own := RL) ⟨hx, hb, hml, hown, hts⟩ (c_L_sum l hst D e0 xa x1 x2 x3 x4 x5 ((xs 1)) ((xs 2)) o1 z3 ((fun _ => 0)) ) (vx_cwSW 4 hts gl_S_c_L_sum rfl rfl rfl (by decide +kernel) ⟨Nat.le_of_ble_eq_true rfl, Nat.le_of_ble_eq_true rfl⟩) hh [0, 3] [1, 2] [0] rfl rfl rfl rfl (by decide) rfl rfl hl rfl (Nat.le_of_ble_eq_true rfl) dL_law_2366 ⟨Nat.le_of_ble_eq_true rfl, (Nat.le_of_ble_eq_true rfl)⟩ (fun _ _ _ _ _ h => h.elim) (fun v w ty1 H locs hp hh => ?_)
  obtain ⟨rfl, rfl, rfl⟩ := hp
  have hh : kH D kStr e0 A s H [(ma, .inr (16, [.int 0, .ref m1, .ref m2, .ref m3, .ref m4, .ref m5, .ref m6, .ref m7, .ref m8, .int 0, .int 0])), (m8, .inr (4, [.int 0, .ref e0.1, .int 0])), (o1, .inl (z3, 1, .inr (.inl (fun _ => 0))))] [(z3, .long), (z3, .long)] _ := hh
  refine W.eq (g2 := F0 m 2369 ls [.int 1]) (by first | rfl | decide) ?_
  refine lv_istore (lv' := [(6, .int 1), (5, .int 0), (4, .ref o2), (3, .ref o1), (2, .ref ma), (1, .ref xa), (0, .ref b)]) hx hb dL_law_2369 hl (by decide) rfl (fun ls hl => ?_)
  refine lv_aload_n hx hb dL_law_2371 rfl (lv_at hl 4 rfl) ?_
  refine lv_aload_n hx hb dL_law_2372 rfl (lv_at hl 6 rfl) ?_
  refine lv_iload hx hb dL_law_2373 (lv_at hl 1 rfl) ?_
  refine lv_iconst (v := 1) hx hb dL_law_2375 (by decide) ?_
  refine lv_iadd hx hb dL_law_2376 ?_
  refine W.eq (g2 := F0 m 2377 ls [.int 1, .ref b, .ref ma]) (by first | rfl | decide) ?_
  refine va_sld hx hb hX hbl hbA hh.2.2.2.1 (by unfold vp_in; decide) dL_law_2377 ?_
  refine W.eq (g2 := F0 m 2378 ls [.int (xs 1), .ref ma]) rfl ?_
  refine lv_aload_n hx hb dL_law_2378 rfl (lv_at hl 6 rfl) ?_
  refine lv_iload hx hb dL_law_2379 (lv_at hl 1 rfl) ?_
  refine lv_iconst (v := 2) hx hb dL_law_2381 (by decide) ?_
  refine lv_iadd hx hb dL_law_2382 ?_
  refine W.eq (g2 := F0 m 2383 ls [.int 2, .ref b, .int (xs 1), .ref ma]) (by first | rfl | decide) ?_
  refine va_sld hx hb hX hbl hbA hh.2.2.2.1 (by unfold vp_in; decide) dL_law_2383 ?_
  refine W.eq (g2 := F0 m 2384 ls [.int (xs 2), .int (xs 1), .ref ma]) rfl ?_
  refine k_callV (C := RX11) (T := TX11) (N := 11) (ci := 16) (q0 := 0) (wr := [(o1, .inl (z3, 1, .inr (.inl (fun _ => 0))))]) (rest := []) (own := RL) ⟨hx, hb, hml, hown, hts⟩ (c_X11_sum l hst D e0 ma 0 m1 m2 m3 m4 m5 m6 m7 m8 ((xs 1)) ((xs 2)) ) (cwV 2 hts gl_V_c_X11_sum rfl rfl rfl (by decide +kernel) ⟨Nat.le_of_ble_eq_true rfl, Nat.le_of_ble_eq_true rfl⟩) hh rfl rfl [0, 1] [2] [] rfl rfl rfl rfl (by decide) rfl rfl hl rfl (Nat.le_of_ble_eq_true rfl) dL_law_2384 ⟨Nat.le_of_ble_eq_true rfl, (Nat.le_of_ble_eq_true rfl)⟩ (fun _ _ _ _ _ h => h.elim) (fun v w ty1 H locs hp hh => ?_)
  obtain ⟨rfl, rfl, rfl⟩ := hp
  have hh : kH D kStr e0 A s H [(o1, .inl (z3, 1, .inr (.inl (fun _ => 0)))), (ma, .inr (16, [.int 1, .ref m1, .ref m2, .ref m3, .ref m4, .ref m5, .ref m6, .ref m7, .ref m8, .int 0, .int 0]))] [(z3, .long), (z3, .long)] _ := hh
  refine W.eq (g2 := F0 m 2387 ls [.int 0]) (by first | rfl | decide) ?_
  refine lv_istore (lv' := [(7, .int 0), (6, .int 1), (5, .int 0), (4, .ref o2), (3, .ref o1), (2, .ref ma), (1, .ref xa), (0, .ref b)]) hx hb dL_law_2387 hl (by decide) rfl (fun ls hl => ?_)
  refine lv_aload_n hx hb dL_law_2389 rfl (lv_at hl 5 rfl) ?_
  refine k_callV (C := RX11) (T := TX11) (N := 11) (ci := 16) (q0 := 1) (wr := [(o1, .inl (z3, 1, .inr (.inl (fun _ => 0))))]) (rest := []) (own := RL) ⟨hx, hb, hml, hown, hts⟩ (c_X11_thrown l hst D e0 ma 1 m1 m2 m3 m4 m5 m6 m7 m8 ) (cwV 0 hts gl_V_c_X11_thrown rfl rfl rfl (by decide +kernel) ⟨Nat.le_of_ble_eq_true rfl, Nat.le_of_ble_eq_true rfl⟩) hh rfl rfl [1] [0] [] rfl rfl rfl rfl (by decide) rfl rfl hl rfl (Nat.le_of_ble_eq_true rfl) dL_law_2390 ⟨Nat.le_of_ble_eq_true rfl, (Nat.le_of_ble_eq_true rfl)⟩ (fun _ _ _ _ _ h => h.elim) (fun v w ty1 H locs hp hh => ?_)
  obtain ⟨rfl, rfl, rfl⟩ := hp
  have hh : kH D kStr e0 A s H [(o1, .inl (z3, 1, .inr (.inl (fun _ => 0)))), (ma, .inr (16, [.int 1, .ref m1, .ref m2, .ref m3, .ref m4, .ref m5, .ref m6, .ref m7, .ref m8, .int 0, .int 0]))] [(z3, .long), (z3, .long)] _ := hh
  refine W.eq (g2 := F0 m 2393 ls [.int 1]) (by first | rfl | decide) ?_
  refine lv_iload hx hb dL_law_2393 (lv_at hl 1 rfl) ?_
  refine lv_icmp_eq (tgt := 2400) hx hb dL_law_2395 (by decide) (fun _ => ?_) (fun c_2395 => absurd (by decide) c_2395)
  refine lv_iload hx hb dL_law_2400 (lv_at hl 1 rfl) ?_
  refine lv_if_ne (tgt := 2417) hx hb dL_law_2402 (by decide) (fun _ => ?_) (fun c_2402 => absurd c_2402 (by decide))
  refine lv_goto (tgt := 3429) hx hb dL_law_2417 (by decide) ?_
  refine W.widen (k := 1000) (n := 100000) (Nat.le_of_ble_eq_true rfl) (Nat.le_of_ble_eq_true rfl) ?_
  exact kk _ _ _ hh.2.2.2.1 (lv_sub hl [7, 2] rfl)
set_option maxHeartbeats 4000000 in
set_option maxRecDepth 100000 in
theorem law_34 {p : Program} {l : Launch} {e : Env} {s : State} {m : MethodId} {below : List Frame} {meth : Method} {c : Code} {Q : State → Prop} {b : Nat} {xs : Nat → Int32} {D : va_G} {e0 : kE} {A : Nat → Prop} (hst : l.stackTraces = false) (hx : p.tables.exec = Jvm.exec) (hb : c.code = cL_law) (hml : c.maxLocals = 9) (hts : ∀ w ∈ lw_tbl, w.before #[Value.ref b] s = true) (hown : s.vm.findClass RL = some m.cls) (hX : va_X b 5 xs s s.heap) (hbl : b < s.heap.size) (hbA : ¬ A b) {xa x1 x2 x3 x4 x5 g1 g2 g3 g4 h1 h2 h3 h4 h5 ma m1 m2 m3 m4 m5 m6 m7 m8 o1 o2 : Nat} {z1 z2 z3 z4 : ClassId}  {H : Heap} {locs : List Loc} {ls : Array Slot} (hh : kH D kStr e0 A s H (lwW e0 xa x1 x2 x3 x4 x5 g1 g2 g3 g4 h1 h2 h3 h4 h5 ma m1 m2 m3 m4 m5 m6 m7 m8 o1 o2 z1 z2 z3 z4) (lwT z1 z2 z3 z4) locs) (hl : lv_has ls 9 (lwL b xa ma o1 o2)) (kk : lwK p l e s m below meth c Q b A) : W p l e room_1 s m #[Value.ref b] below meth c H locs 100 10000 Q (F0 m 2420 ls []) := by
  have hh : kH D kStr e0 A s H [(xa, .inr (11, [.ref x1, .int 0, .ref x2, .int 0, .ref x3, .ref x4, .ref x5, .int 0])), (ma, .inr (16, [.int 0, .ref m1, .ref m2, .ref m3, .ref m4, .ref m5, .ref m6, .ref m7, .ref m8, .int 0, .int 0])), (m8, .inr (4, [.int 0, .ref e0.1, .int 0])), (o1, .inl (z3, 1, .inr (.inl (fun _ => 0))))] [(z3, .long)] _ := hh.sub [0, 5, 13, 14] [2] rfl rfl rfl
  have hl : lv_has ls 9 [(5, .int 0), (4, .ref o2), (3, .ref o1), (2, .ref ma), (1, .ref xa), (0, .ref b)] := hl
  refine lv_aload_n hx hb dL_law_2420 rfl (lv_at hl 4 rfl) ?_
  refine lv_aload_n hx hb dL_law_2421 rfl (lv_at hl 5 rfl) ?_
  refine lv_iload hx hb dL_law_2422 (lv_at hl 0 rfl) ?_
  refine lv_iconst (v := 1) hx hb dL_law_2424 (by decide) ?_
  refine lv_iadd hx hb dL_law_2425 ?_
  refine W.eq (g2 := F0 m 2426 ls [.int 1, .ref b, .ref xa]) (by first | rfl | decide) ?_
  refine va_sld hx hb hX hbl hbA hh.2.2.2.1 (by unfold vp_in; decide) dL_law_2426 ?_
  refine W.eq (g2 := F0 m 2427 ls [.int (xs 1), .ref xa]) rfl ?_
  refine lv_aload_n hx hb dL_law_2427 rfl (lv_at hl 5 rfl) ?_
  refine lv_iload hx hb dL_law_2428 (lv_at hl 0 rfl) ?_
  refine lv_iconst (v := 2) hx hb dL_law_2430 (by decide) ?_
  refine lv_iadd hx hb dL_law_2431 ?_
  refine W.eq (g2 := F0 m 2432 ls [.int 2, .ref b, .int (xs 1), .ref xa]) (by first | rfl | decide) ?_
  refine va_sld hx hb hX hbl hbA hh.2.2.2.1 (by unfold vp_in; decide) dL_law_2432 ?_
  refine W.eq (g2 := F0 m 2433 ls [.int (xs 2), .int (xs 1), .ref xa]) rfl ?_
  refine lv_aload_n hx hb dL_law_2433 rfl (lv_at hl 2 rfl) ?_
  refine k_callSX (wr := [(ma, .inr (16, [.int 0, .ref m1, .ref m2, .ref m3, .ref m4, .ref m5, .ref m6, .ref m7, .ref m8, .int 0, .int 0])), (m8, .inr (4, [.int 0, .ref e0.1, .int 0]))]) (rest := []) (own := RL) ⟨hx, hb, hml, hown, hts⟩ (c_L_match l hst D e0 xa x1 x2 x3 x4 x5 ((xs 1)) ((xs 2)) o1 z3 ((fun _ => 0)) ) (vx_cwSW 4 hts gl_S_c_L_match rfl rfl rfl (by decide +kernel) ⟨Nat.le_of_ble_eq_true rfl, Nat.le_of_ble_eq_true rfl⟩) hh [0, 3] [1, 2] [0] rfl rfl rfl rfl (by decide) rfl rfl hl rfl (Nat.le_of_ble_eq_true rfl) dL_law_2434 ⟨Nat.le_of_ble_eq_true rfl, (Nat.le_of_ble_eq_true rfl)⟩ (fun _ _ _ _ _ h => h.elim) (fun v w ty1 H locs hp hh => ?_)
  obtain ⟨rfl, rfl, rfl⟩ := hp
  have hh : kH D kStr e0 A s H [(ma, .inr (16, [.int 0, .ref m1, .ref m2, .ref m3, .ref m4, .ref m5, .ref m6, .ref m7, .ref m8, .int 0, .int 0])), (m8, .inr (4, [.int 0, .ref e0.1, .int 0])), (o1, .inl (z3, 1, .inr (.inl (fun _ => 0))))] [(z3, .long), (z3, .long)] _ := hh
  refine W.eq (g2 := F0 m 2437 ls [.int 1]) (by first | rfl | decide) ?_
  refine lv_istore (lv' := [(6, .int 1), (5, .int 0), (4, .ref o2), (3, .ref o1), (2, .ref ma), (1, .ref xa), (0, .ref b)]) hx hb dL_law_2437 hl (by decide) rfl (fun ls hl => ?_)
  refine lv_aload_n hx hb dL_law_2439 rfl (lv_at hl 4 rfl) ?_
  refine lv_aload_n hx hb dL_law_2440 rfl (lv_at hl 6 rfl) ?_
  refine lv_iload hx hb dL_law_2441 (lv_at hl 1 rfl) ?_
  refine lv_iconst (v := 1) hx hb dL_law_2443 (by decide) ?_
  refine lv_iadd hx hb dL_law_2444 ?_
  refine W.eq (g2 := F0 m 2445 ls [.int 1, .ref b, .ref ma]) (by first | rfl | decide) ?_
  refine va_sld hx hb hX hbl hbA hh.2.2.2.1 (by unfold vp_in; decide) dL_law_2445 ?_
  refine W.eq (g2 := F0 m 2446 ls [.int (xs 1), .ref ma]) rfl ?_
  refine lv_aload_n hx hb dL_law_2446 rfl (lv_at hl 6 rfl) ?_
  refine lv_iload hx hb dL_law_2447 (lv_at hl 1 rfl) ?_
  refine lv_iconst (v := 2) hx hb dL_law_2449 (by decide) ?_
  refine lv_iadd hx hb dL_law_2450 ?_
  refine W.eq (g2 := F0 m 2451 ls [.int 2, .ref b, .int (xs 1), .ref ma]) (by first | rfl | decide) ?_
  refine va_sld hx hb hX hbl hbA hh.2.2.2.1 (by unfold vp_in; decide) dL_law_2451 ?_
  refine W.eq (g2 := F0 m 2452 ls [.int (xs 2), .int (xs 1), .ref ma]) rfl ?_
  refine k_callV (C := RX11) (T := TX11) (N := 11) (ci := 16) (q0 := 0) (wr := [(o1, .inl (z3, 1, .inr (.inl (fun _ => 0))))]) (rest := []) (own := RL) ⟨hx, hb, hml, hown, hts⟩ (c_X11_match l hst D e0 ma 0 m1 m2 m3 m4 m5 m6 m7 m8 ((xs 1)) ((xs 2)) ) (cwV 2 hts gl_V_c_X11_match rfl rfl rfl (by decide +kernel) ⟨Nat.le_of_ble_eq_true rfl, Nat.le_of_ble_eq_true rfl⟩) hh rfl rfl [0, 1] [2] [] rfl rfl rfl rfl (by decide) rfl rfl hl rfl (Nat.le_of_ble_eq_true rfl) dL_law_2452 ⟨Nat.le_of_ble_eq_true rfl, (Nat.le_of_ble_eq_true rfl)⟩ (fun _ _ _ _ _ h => h.elim) (fun v w ty1 H locs hp hh => ?_)
  obtain ⟨rfl, rfl, rfl⟩ := hp
  have hh : kH D kStr e0 A s H [(o1, .inl (z3, 1, .inr (.inl (fun _ => 0)))), (ma, .inr (16, [.int 1, .ref m1, .ref m2, .ref m3, .ref m4, .ref m5, .ref m6, .ref m7, .ref m8, .int 0, .int 0]))] [(z3, .long), (z3, .long)] _ := hh
  refine W.eq (g2 := F0 m 2455 ls [.int 0]) (by first | rfl | decide) ?_
  refine lv_istore (lv' := [(7, .int 0), (6, .int 1), (5, .int 0), (4, .ref o2), (3, .ref o1), (2, .ref ma), (1, .ref xa), (0, .ref b)]) hx hb dL_law_2455 hl (by decide) rfl (fun ls hl => ?_)
  refine lv_aload_n hx hb dL_law_2457 rfl (lv_at hl 5 rfl) ?_
  refine k_callV (C := RX11) (T := TX11) (N := 11) (ci := 16) (q0 := 1) (wr := [(o1, .inl (z3, 1, .inr (.inl (fun _ => 0))))]) (rest := []) (own := RL) ⟨hx, hb, hml, hown, hts⟩ (c_X11_thrown l hst D e0 ma 1 m1 m2 m3 m4 m5 m6 m7 m8 ) (cwV 0 hts gl_V_c_X11_thrown rfl rfl rfl (by decide +kernel) ⟨Nat.le_of_ble_eq_true rfl, Nat.le_of_ble_eq_true rfl⟩) hh rfl rfl [1] [0] [] rfl rfl rfl rfl (by decide) rfl rfl hl rfl (Nat.le_of_ble_eq_true rfl) dL_law_2458 ⟨Nat.le_of_ble_eq_true rfl, (Nat.le_of_ble_eq_true rfl)⟩ (fun _ _ _ _ _ h => h.elim) (fun v w ty1 H locs hp hh => ?_)
  obtain ⟨rfl, rfl, rfl⟩ := hp
  have hh : kH D kStr e0 A s H [(o1, .inl (z3, 1, .inr (.inl (fun _ => 0)))), (ma, .inr (16, [.int 1, .ref m1, .ref m2, .ref m3, .ref m4, .ref m5, .ref m6, .ref m7, .ref m8, .int 0, .int 0]))] [(z3, .long), (z3, .long)] _ := hh
  refine W.eq (g2 := F0 m 2461 ls [.int 1]) (by first | rfl | decide) ?_
  refine lv_iload hx hb dL_law_2461 (lv_at hl 1 rfl) ?_
  refine lv_icmp_eq (tgt := 2468) hx hb dL_law_2463 (by decide) (fun _ => ?_) (fun c_2463 => absurd (by decide) c_2463)
  refine lv_iload hx hb dL_law_2468 (lv_at hl 1 rfl) ?_
  refine lv_if_ne (tgt := 2485) hx hb dL_law_2470 (by decide) (fun _ => ?_) (fun c_2470 => absurd c_2470 (by decide))
  refine lv_goto (tgt := 3429) hx hb dL_law_2485 (by decide) ?_
  refine W.widen (k := 1000) (n := 100000) (Nat.le_of_ble_eq_true rfl) (Nat.le_of_ble_eq_true rfl) ?_
  exact kk _ _ _ hh.2.2.2.1 (lv_sub hl [7, 2] rfl)
set_option maxHeartbeats 4000000 in
set_option maxRecDepth 100000 in
theorem law_35 {p : Program} {l : Launch} {e : Env} {s : State} {m : MethodId} {below : List Frame} {meth : Method} {c : Code} {Q : State → Prop} {b : Nat} {xs : Nat → Int32} {D : va_G} {e0 : kE} {A : Nat → Prop} (hst : l.stackTraces = false) (hx : p.tables.exec = Jvm.exec) (hb : c.code = cL_law) (hml : c.maxLocals = 9) (hts : ∀ w ∈ lw_tbl, w.before #[Value.ref b] s = true) (hown : s.vm.findClass RL = some m.cls) (hX : va_X b 5 xs s s.heap) (hbl : b < s.heap.size) (hbA : ¬ A b) {xa x1 x2 x3 x4 x5 g1 g2 g3 g4 h1 h2 h3 h4 h5 ma m1 m2 m3 m4 m5 m6 m7 m8 o1 o2 : Nat} {z1 z2 z3 z4 : ClassId}  {H : Heap} {locs : List Loc} {ls : Array Slot} (hh : kH D kStr e0 A s H (lwW e0 xa x1 x2 x3 x4 x5 g1 g2 g3 g4 h1 h2 h3 h4 h5 ma m1 m2 m3 m4 m5 m6 m7 m8 o1 o2 z1 z2 z3 z4) (lwT z1 z2 z3 z4) locs) (hl : lv_has ls 9 (lwL b xa ma o1 o2)) (kk : lwK p l e s m below meth c Q b A) : W p l e room_1 s m #[Value.ref b] below meth c H locs 100 10000 Q (F0 m 2488 ls []) := by
  have hh : kH D kStr e0 A s H [(xa, .inr (11, [.ref x1, .int 0, .ref x2, .int 0, .ref x3, .ref x4, .ref x5, .int 0])), (ma, .inr (16, [.int 0, .ref m1, .ref m2, .ref m3, .ref m4, .ref m5, .ref m6, .ref m7, .ref m8, .int 0, .int 0])), (m8, .inr (4, [.int 0, .ref e0.1, .int 0])), (o1, .inl (z3, 1, .inr (.inl (fun _ => 0))))] [(z3, .long)] _ := hh.sub [0, 5, 13, 14] [2] rfl rfl rfl
  have hl : lv_has ls 9 [(5, .int 0), (4, .ref o2), (3, .ref o1), (2, .ref ma), (1, .ref xa), (0, .ref b)] := hl
  refine lv_aload_n hx hb dL_law_2488 rfl (lv_at hl 4 rfl) ?_
  refine lv_aload_n hx hb dL_law_2489 rfl (lv_at hl 5 rfl) ?_
  refine lv_iload hx hb dL_law_2490 (lv_at hl 0 rfl) ?_
  refine lv_iconst (v := 1) hx hb dL_law_2492 (by decide) ?_
  refine lv_iadd hx hb dL_law_2493 ?_
  refine W.eq (g2 := F0 m 2494 ls [.int 1, .ref b, .ref xa]) (by first | rfl | decide) ?_
  refine va_sld hx hb hX hbl hbA hh.2.2.2.1 (by unfold vp_in; decide) dL_law_2494 ?_
  refine W.eq (g2 := F0 m 2495 ls [.int (xs 1), .ref xa]) rfl ?_
  refine lv_aload_n hx hb dL_law_2495 rfl (lv_at hl 5 rfl) ?_
  refine lv_iload hx hb dL_law_2496 (lv_at hl 0 rfl) ?_
  refine lv_iconst (v := 2) hx hb dL_law_2498 (by decide) ?_
  refine lv_iadd hx hb dL_law_2499 ?_
  refine W.eq (g2 := F0 m 2500 ls [.int 2, .ref b, .int (xs 1), .ref xa]) (by first | rfl | decide) ?_
  refine va_sld hx hb hX hbl hbA hh.2.2.2.1 (by unfold vp_in; decide) dL_law_2500 ?_
  refine W.eq (g2 := F0 m 2501 ls [.int (xs 2), .int (xs 1), .ref xa]) rfl ?_
  refine lv_aload_n hx hb dL_law_2501 rfl (lv_at hl 2 rfl) ?_
  refine k_callSX (wr := [(ma, .inr (16, [.int 0, .ref m1, .ref m2, .ref m3, .ref m4, .ref m5, .ref m6, .ref m7, .ref m8, .int 0, .int 0])), (m8, .inr (4, [.int 0, .ref e0.1, .int 0]))]) (rest := []) (own := RL) ⟨hx, hb, hml, hown, hts⟩ (c_L_difference l hst D e0 xa x1 x2 x3 x4 x5 ((xs 1)) ((xs 2)) o1 z3 ((fun _ => 0)) ) (vx_cwSW 4 hts gl_S_c_L_difference rfl rfl rfl (by decide +kernel) ⟨Nat.le_of_ble_eq_true rfl, Nat.le_of_ble_eq_true rfl⟩) hh [0, 3] [1, 2] [0] rfl rfl rfl rfl (by decide) rfl rfl hl rfl (Nat.le_of_ble_eq_true rfl) dL_law_2502 ⟨Nat.le_of_ble_eq_true rfl, (Nat.le_of_ble_eq_true rfl)⟩ (fun _ _ _ _ _ h => h.elim) (fun v w ty1 H locs hp hh => ?_)
  obtain ⟨rfl, rfl, rfl⟩ := hp
  have hh : kH D kStr e0 A s H [(ma, .inr (16, [.int 0, .ref m1, .ref m2, .ref m3, .ref m4, .ref m5, .ref m6, .ref m7, .ref m8, .int 0, .int 0])), (m8, .inr (4, [.int 0, .ref e0.1, .int 0])), (o1, .inl (z3, 1, .inr (.inl (fun _ => 0))))] [(z3, .long), (z3, .long)] _ := hh
  refine W.eq (g2 := F0 m 2505 ls [.int 1]) (by first | rfl | decide) ?_
  refine lv_istore (lv' := [(6, .int 1), (5, .int 0), (4, .ref o2), (3, .ref o1), (2, .ref ma), (1, .ref xa), (0, .ref b)]) hx hb dL_law_2505 hl (by decide) rfl (fun ls hl => ?_)
  refine lv_aload_n hx hb dL_law_2507 rfl (lv_at hl 4 rfl) ?_
  refine lv_aload_n hx hb dL_law_2508 rfl (lv_at hl 6 rfl) ?_
  refine lv_iload hx hb dL_law_2509 (lv_at hl 1 rfl) ?_
  refine lv_iconst (v := 1) hx hb dL_law_2511 (by decide) ?_
  refine lv_iadd hx hb dL_law_2512 ?_
  refine W.eq (g2 := F0 m 2513 ls [.int 1, .ref b, .ref ma]) (by first | rfl | decide) ?_
  refine va_sld hx hb hX hbl hbA hh.2.2.2.1 (by unfold vp_in; decide) dL_law_2513 ?_
  refine W.eq (g2 := F0 m 2514 ls [.int (xs 1), .ref ma]) rfl ?_
  refine lv_aload_n hx hb dL_law_2514 rfl (lv_at hl 6 rfl) ?_
  refine lv_iload hx hb dL_law_2515 (lv_at hl 1 rfl) ?_
  refine lv_iconst (v := 2) hx hb dL_law_2517 (by decide) ?_
  refine lv_iadd hx hb dL_law_2518 ?_
  refine W.eq (g2 := F0 m 2519 ls [.int 2, .ref b, .int (xs 1), .ref ma]) (by first | rfl | decide) ?_
  refine va_sld hx hb hX hbl hbA hh.2.2.2.1 (by unfold vp_in; decide) dL_law_2519 ?_
  refine W.eq (g2 := F0 m 2520 ls [.int (xs 2), .int (xs 1), .ref ma]) rfl ?_
  refine k_callV (C := RX11) (T := TX11) (N := 11) (ci := 16) (q0 := 0) (wr := [(o1, .inl (z3, 1, .inr (.inl (fun _ => 0))))]) (rest := []) (own := RL) ⟨hx, hb, hml, hown, hts⟩ (c_X11_difference l hst D e0 ma 0 m1 m2 m3 m4 m5 m6 m7 m8 ((xs 1)) ((xs 2)) ) (cwV 2 hts gl_V_c_X11_difference rfl rfl rfl (by decide +kernel) ⟨Nat.le_of_ble_eq_true rfl, Nat.le_of_ble_eq_true rfl⟩) hh rfl rfl [0, 1] [2] [] rfl rfl rfl rfl (by decide) rfl rfl hl rfl (Nat.le_of_ble_eq_true rfl) dL_law_2520 ⟨Nat.le_of_ble_eq_true rfl, (Nat.le_of_ble_eq_true rfl)⟩ (fun _ _ _ _ _ h => h.elim) (fun v w ty1 H locs hp hh => ?_)
  obtain ⟨rfl, rfl, rfl⟩ := hp
  have hh : kH D kStr e0 A s H [(o1, .inl (z3, 1, .inr (.inl (fun _ => 0)))), (ma, .inr (16, [.int 1, .ref m1, .ref m2, .ref m3, .ref m4, .ref m5, .ref m6, .ref m7, .ref m8, .int 0, .int 0]))] [(z3, .long), (z3, .long)] _ := hh
  refine W.eq (g2 := F0 m 2523 ls [.int 32]) (by first | rfl | decide) ?_
  refine lv_istore (lv' := [(7, .int 32), (6, .int 1), (5, .int 0), (4, .ref o2), (3, .ref o1), (2, .ref ma), (1, .ref xa), (0, .ref b)]) hx hb dL_law_2523 hl (by decide) rfl (fun ls hl => ?_)
  refine lv_aload_n hx hb dL_law_2525 rfl (lv_at hl 5 rfl) ?_
  refine k_callV (C := RX11) (T := TX11) (N := 11) (ci := 16) (q0 := 1) (wr := [(o1, .inl (z3, 1, .inr (.inl (fun _ => 0))))]) (rest := []) (own := RL) ⟨hx, hb, hml, hown, hts⟩ (c_X11_thrown l hst D e0 ma 1 m1 m2 m3 m4 m5 m6 m7 m8 ) (cwV 0 hts gl_V_c_X11_thrown rfl rfl rfl (by decide +kernel) ⟨Nat.le_of_ble_eq_true rfl, Nat.le_of_ble_eq_true rfl⟩) hh rfl rfl [1] [0] [] rfl rfl rfl rfl (by decide) rfl rfl hl rfl (Nat.le_of_ble_eq_true rfl) dL_law_2526 ⟨Nat.le_of_ble_eq_true rfl, (Nat.le_of_ble_eq_true rfl)⟩ (fun _ _ _ _ _ h => h.elim) (fun v w ty1 H locs hp hh => ?_)
  obtain ⟨rfl, rfl, rfl⟩ := hp
  have hh : kH D kStr e0 A s H [(o1, .inl (z3, 1, .inr (.inl (fun _ => 0)))), (ma, .inr (16, [.int 1, .ref m1, .ref m2, .ref m3, .ref m4, .ref m5, .ref m6, .ref m7, .ref m8, .int 0, .int 0]))] [(z3, .long), (z3, .long)] _ := hh
  refine W.eq (g2 := F0 m 2529 ls [.int 1]) (by first | rfl | decide) ?_
  refine lv_iload hx hb dL_law_2529 (lv_at hl 1 rfl) ?_
  refine lv_icmp_eq (tgt := 2536) hx hb dL_law_2531 (by decide) (fun _ => ?_) (fun c_2531 => absurd (by decide) c_2531)
  refine lv_iload hx hb dL_law_2536 (lv_at hl 1 rfl) ?_
  refine lv_if_ne (tgt := 2553) hx hb dL_law_2538 (by decide) (fun _ => ?_) (fun c_2538 => absurd c_2538 (by decide))
  refine lv_goto (tgt := 3429) hx hb dL_law_2553 (by decide) ?_
  refine W.widen (k := 1000) (n := 100000) (Nat.le_of_ble_eq_true rfl) (Nat.le_of_ble_eq_true rfl) ?_
  exact kk _ _ _ hh.2.2.2.1 (lv_sub hl [7, 2] rfl)
set_option maxHeartbeats 4000000 in
set_option maxRecDepth 100000 in
theorem law_36 {p : Program} {l : Launch} {e : Env} {s : State} {m : MethodId} {below : List Frame} {meth : Method} {c : Code} {Q : State → Prop} {b : Nat} {xs : Nat → Int32} {D : va_G} {e0 : kE} {A : Nat → Prop} (hst : l.stackTraces = false) (hx : p.tables.exec = Jvm.exec) (hb : c.code = cL_law) (hml : c.maxLocals = 9) (hts : ∀ w ∈ lw_tbl, w.before #[Value.ref b] s = true) (hown : s.vm.findClass RL = some m.cls) (hX : va_X b 5 xs s s.heap) (hbl : b < s.heap.size) (hbA : ¬ A b) {xa x1 x2 x3 x4 x5 g1 g2 g3 g4 h1 h2 h3 h4 h5 ma m1 m2 m3 m4 m5 m6 m7 m8 o1 o2 : Nat} {z1 z2 z3 z4 : ClassId}  {H : Heap} {locs : List Loc} {ls : Array Slot} (hh : kH D kStr e0 A s H (lwW e0 xa x1 x2 x3 x4 x5 g1 g2 g3 g4 h1 h2 h3 h4 h5 ma m1 m2 m3 m4 m5 m6 m7 m8 o1 o2 z1 z2 z3 z4) (lwT z1 z2 z3 z4) locs) (hl : lv_has ls 9 (lwL b xa ma o1 o2)) (kk : lwK p l e s m below meth c Q b A) : W p l e room_1 s m #[Value.ref b] below meth c H locs 100 10000 Q (F0 m 2556 ls []) := by
  have hh : kH D kStr e0 A s H [(xa, .inr (11, [.ref x1, .int 0, .ref x2, .int 0, .ref x3, .ref x4, .ref x5, .int 0])), (ma, .inr (16, [.int 0, .ref m1, .ref m2, .ref m3, .ref m4, .ref m5, .ref m6, .ref m7, .ref m8, .int 0, .int 0])), (m8, .inr (4, [.int 0, .ref e0.1, .int 0])), (o1, .inl (z3, 1, .inr (.inl (fun _ => 0))))] [(z3, .long)] _ := hh.sub [0, 5, 13, 14] [2] rfl rfl rfl
  have hl : lv_has ls 9 [(5, .int 0), (4, .ref o2), (3, .ref o1), (2, .ref ma), (1, .ref xa), (0, .ref b)] := hl
  refine lv_aload_n hx hb dL_law_2556 rfl (lv_at hl 4 rfl) ?_
  refine lv_aload_n hx hb dL_law_2557 rfl (lv_at hl 5 rfl) ?_
  refine lv_iload hx hb dL_law_2558 (lv_at hl 0 rfl) ?_
  refine lv_iconst (v := 1) hx hb dL_law_2560 (by decide) ?_
  refine lv_iadd hx hb dL_law_2561 ?_
  refine W.eq (g2 := F0 m 2562 ls [.int 1, .ref b, .ref xa]) (by first | rfl | decide) ?_
  refine va_sld hx hb hX hbl hbA hh.2.2.2.1 (by unfold vp_in; decide) dL_law_2562 ?_
  refine W.eq (g2 := F0 m 2563 ls [.int (xs 1), .ref xa]) rfl ?_
  refine lv_aload_n hx hb dL_law_2563 rfl (lv_at hl 5 rfl) ?_
  refine lv_iload hx hb dL_law_2564 (lv_at hl 0 rfl) ?_
  refine lv_iconst (v := 2) hx hb dL_law_2566 (by decide) ?_
  refine lv_iadd hx hb dL_law_2567 ?_
  refine W.eq (g2 := F0 m 2568 ls [.int 2, .ref b, .int (xs 1), .ref xa]) (by first | rfl | decide) ?_
  refine va_sld hx hb hX hbl hbA hh.2.2.2.1 (by unfold vp_in; decide) dL_law_2568 ?_
  refine W.eq (g2 := F0 m 2569 ls [.int (xs 2), .int (xs 1), .ref xa]) rfl ?_
  refine lv_aload_n hx hb dL_law_2569 rfl (lv_at hl 2 rfl) ?_
  refine k_callSX (wr := [(ma, .inr (16, [.int 0, .ref m1, .ref m2, .ref m3, .ref m4, .ref m5, .ref m6, .ref m7, .ref m8, .int 0, .int 0])), (m8, .inr (4, [.int 0, .ref e0.1, .int 0]))]) (rest := []) (own := RL) ⟨hx, hb, hml, hown, hts⟩ (c_L_differsAt l hst D e0 xa x1 x2 x3 x4 x5 ((xs 1)) ((xs 2)) o1 z3 ((fun _ => 0)) ) (vx_cwSW 4 hts gl_S_c_L_differsAt rfl rfl rfl (by decide +kernel) ⟨Nat.le_of_ble_eq_true rfl, Nat.le_of_ble_eq_true rfl⟩) hh [0, 3] [1, 2] [0] rfl rfl rfl rfl (by decide) rfl rfl hl rfl (Nat.le_of_ble_eq_true rfl) dL_law_2570 ⟨Nat.le_of_ble_eq_true rfl, (Nat.le_of_ble_eq_true rfl)⟩ (fun _ _ _ _ _ h => h.elim) (fun v w ty1 H locs hp hh => ?_)
  obtain ⟨rfl, rfl, rfl⟩ := hp
  have hh : kH D kStr e0 A s H [(ma, .inr (16, [.int 0, .ref m1, .ref m2, .ref m3, .ref m4, .ref m5, .ref m6, .ref m7, .ref m8, .int 0, .int 0])), (m8, .inr (4, [.int 0, .ref e0.1, .int 0])), (o1, .inl (z3, 1, .inr (.inl (fun _ => 0))))] [(z3, .long), (z3, .long)] _ := hh
  refine W.eq (g2 := F0 m 2573 ls [.int 1]) (by first | rfl | decide) ?_
  refine lv_istore (lv' := [(6, .int 1), (5, .int 0), (4, .ref o2), (3, .ref o1), (2, .ref ma), (1, .ref xa), (0, .ref b)]) hx hb dL_law_2573 hl (by decide) rfl (fun ls hl => ?_)
  refine lv_aload_n hx hb dL_law_2575 rfl (lv_at hl 4 rfl) ?_
  refine lv_aload_n hx hb dL_law_2576 rfl (lv_at hl 6 rfl) ?_
  refine lv_iload hx hb dL_law_2577 (lv_at hl 1 rfl) ?_
  refine lv_iconst (v := 1) hx hb dL_law_2579 (by decide) ?_
  refine lv_iadd hx hb dL_law_2580 ?_
  refine W.eq (g2 := F0 m 2581 ls [.int 1, .ref b, .ref ma]) (by first | rfl | decide) ?_
  refine va_sld hx hb hX hbl hbA hh.2.2.2.1 (by unfold vp_in; decide) dL_law_2581 ?_
  refine W.eq (g2 := F0 m 2582 ls [.int (xs 1), .ref ma]) rfl ?_
  refine lv_aload_n hx hb dL_law_2582 rfl (lv_at hl 6 rfl) ?_
  refine lv_iload hx hb dL_law_2583 (lv_at hl 1 rfl) ?_
  refine lv_iconst (v := 2) hx hb dL_law_2585 (by decide) ?_
  refine lv_iadd hx hb dL_law_2586 ?_
  refine W.eq (g2 := F0 m 2587 ls [.int 2, .ref b, .int (xs 1), .ref ma]) (by first | rfl | decide) ?_
  refine va_sld hx hb hX hbl hbA hh.2.2.2.1 (by unfold vp_in; decide) dL_law_2587 ?_
  refine W.eq (g2 := F0 m 2588 ls [.int (xs 2), .int (xs 1), .ref ma]) rfl ?_
  refine k_callV (C := RX11) (T := TX11) (N := 11) (ci := 16) (q0 := 0) (wr := [(o1, .inl (z3, 1, .inr (.inl (fun _ => 0))))]) (rest := []) (own := RL) ⟨hx, hb, hml, hown, hts⟩ (c_X11_differsAt l hst D e0 ma 0 m1 m2 m3 m4 m5 m6 m7 m8 ((xs 1)) ((xs 2)) ) (cwV 2 hts gl_V_c_X11_differsAt rfl rfl rfl (by decide +kernel) ⟨Nat.le_of_ble_eq_true rfl, Nat.le_of_ble_eq_true rfl⟩) hh rfl rfl [0, 1] [2] [] rfl rfl rfl rfl (by decide) rfl rfl hl rfl (Nat.le_of_ble_eq_true rfl) dL_law_2588 ⟨Nat.le_of_ble_eq_true rfl, (Nat.le_of_ble_eq_true rfl)⟩ (fun _ _ _ _ _ h => h.elim) (fun v w ty1 H locs hp hh => ?_)
  obtain ⟨rfl, rfl, rfl⟩ := hp
  have hh : kH D kStr e0 A s H [(o1, .inl (z3, 1, .inr (.inl (fun _ => 0)))), (ma, .inr (16, [.int 1, .ref m1, .ref m2, .ref m3, .ref m4, .ref m5, .ref m6, .ref m7, .ref m8, .int 0, .int 0]))] [(z3, .long), (z3, .long)] _ := hh
  refine W.eq (g2 := F0 m 2591 ls [.int 0]) (by first | rfl | decide) ?_
  refine lv_istore (lv' := [(7, .int 0), (6, .int 1), (5, .int 0), (4, .ref o2), (3, .ref o1), (2, .ref ma), (1, .ref xa), (0, .ref b)]) hx hb dL_law_2591 hl (by decide) rfl (fun ls hl => ?_)
  refine lv_aload_n hx hb dL_law_2593 rfl (lv_at hl 5 rfl) ?_
  refine k_callV (C := RX11) (T := TX11) (N := 11) (ci := 16) (q0 := 1) (wr := [(o1, .inl (z3, 1, .inr (.inl (fun _ => 0))))]) (rest := []) (own := RL) ⟨hx, hb, hml, hown, hts⟩ (c_X11_thrown l hst D e0 ma 1 m1 m2 m3 m4 m5 m6 m7 m8 ) (cwV 0 hts gl_V_c_X11_thrown rfl rfl rfl (by decide +kernel) ⟨Nat.le_of_ble_eq_true rfl, Nat.le_of_ble_eq_true rfl⟩) hh rfl rfl [1] [0] [] rfl rfl rfl rfl (by decide) rfl rfl hl rfl (Nat.le_of_ble_eq_true rfl) dL_law_2594 ⟨Nat.le_of_ble_eq_true rfl, (Nat.le_of_ble_eq_true rfl)⟩ (fun _ _ _ _ _ h => h.elim) (fun v w ty1 H locs hp hh => ?_)
  obtain ⟨rfl, rfl, rfl⟩ := hp
  have hh : kH D kStr e0 A s H [(o1, .inl (z3, 1, .inr (.inl (fun _ => 0)))), (ma, .inr (16, [.int 1, .ref m1, .ref m2, .ref m3, .ref m4, .ref m5, .ref m6, .ref m7, .ref m8, .int 0, .int 0]))] [(z3, .long), (z3, .long)] _ := hh
  refine W.eq (g2 := F0 m 2597 ls [.int 1]) (by first | rfl | decide) ?_
  refine lv_iload hx hb dL_law_2597 (lv_at hl 1 rfl) ?_
  refine lv_icmp_eq (tgt := 2604) hx hb dL_law_2599 (by decide) (fun _ => ?_) (fun c_2599 => absurd (by decide) c_2599)
  refine lv_iload hx hb dL_law_2604 (lv_at hl 1 rfl) ?_
  refine lv_if_ne (tgt := 2621) hx hb dL_law_2606 (by decide) (fun _ => ?_) (fun c_2606 => absurd c_2606 (by decide))
  refine lv_goto (tgt := 3429) hx hb dL_law_2621 (by decide) ?_
  refine W.widen (k := 1000) (n := 100000) (Nat.le_of_ble_eq_true rfl) (Nat.le_of_ble_eq_true rfl) ?_
  exact kk _ _ _ hh.2.2.2.1 (lv_sub hl [7, 2] rfl)
set_option maxHeartbeats 4000000 in
set_option maxRecDepth 100000 in
theorem law_37 {p : Program} {l : Launch} {e : Env} {s : State} {m : MethodId} {below : List Frame} {meth : Method} {c : Code} {Q : State → Prop} {b : Nat} {xs : Nat → Int32} {D : va_G} {e0 : kE} {A : Nat → Prop} (hst : l.stackTraces = false) (hx : p.tables.exec = Jvm.exec) (hb : c.code = cL_law) (hml : c.maxLocals = 9) (hts : ∀ w ∈ lw_tbl, w.before #[Value.ref b] s = true) (hown : s.vm.findClass RL = some m.cls) (hX : va_X b 5 xs s s.heap) (hbl : b < s.heap.size) (hbA : ¬ A b) {xa x1 x2 x3 x4 x5 g1 g2 g3 g4 h1 h2 h3 h4 h5 ma m1 m2 m3 m4 m5 m6 m7 m8 o1 o2 : Nat} {z1 z2 z3 z4 : ClassId}  {H : Heap} {locs : List Loc} {ls : Array Slot} (hh : kH D kStr e0 A s H (lwW e0 xa x1 x2 x3 x4 x5 g1 g2 g3 g4 h1 h2 h3 h4 h5 ma m1 m2 m3 m4 m5 m6 m7 m8 o1 o2 z1 z2 z3 z4) (lwT z1 z2 z3 z4) locs) (hl : lv_has ls 9 (lwL b xa ma o1 o2)) (kk : lwK p l e s m below meth c Q b A) : W p l e room_1 s m #[Value.ref b] below meth c H locs 100 10000 Q (F0 m 2624 ls []) := by
  have hh : kH D kStr e0 A s H [(xa, .inr (11, [.ref x1, .int 0, .ref x2, .int 0, .ref x3, .ref x4, .ref x5, .int 0])), (ma, .inr (16, [.int 0, .ref m1, .ref m2, .ref m3, .ref m4, .ref m5, .ref m6, .ref m7, .ref m8, .int 0, .int 0])), (m8, .inr (4, [.int 0, .ref e0.1, .int 0])), (o1, .inl (z3, 1, .inr (.inl (fun _ => 0))))] [(z3, .long)] _ := hh.sub [0, 5, 13, 14] [2] rfl rfl rfl
  have hl : lv_has ls 9 [(5, .int 0), (4, .ref o2), (3, .ref o1), (2, .ref ma), (1, .ref xa), (0, .ref b)] := hl
  refine lv_aload_n hx hb dL_law_2624 rfl (lv_at hl 4 rfl) ?_
  refine lv_aload_n hx hb dL_law_2625 rfl (lv_at hl 5 rfl) ?_
  refine lv_iload hx hb dL_law_2626 (lv_at hl 0 rfl) ?_
  refine lv_iconst (v := 1) hx hb dL_law_2628 (by decide) ?_
  refine lv_iadd hx hb dL_law_2629 ?_
  refine W.eq (g2 := F0 m 2630 ls [.int 1, .ref b, .ref xa]) (by first | rfl | decide) ?_
  refine va_sld hx hb hX hbl hbA hh.2.2.2.1 (by unfold vp_in; decide) dL_law_2630 ?_
  refine W.eq (g2 := F0 m 2631 ls [.int (xs 1), .ref xa]) rfl ?_
  refine lv_aload_n hx hb dL_law_2631 rfl (lv_at hl 5 rfl) ?_
  refine lv_iload hx hb dL_law_2632 (lv_at hl 0 rfl) ?_
  refine lv_iconst (v := 2) hx hb dL_law_2634 (by decide) ?_
  refine lv_iadd hx hb dL_law_2635 ?_
  refine W.eq (g2 := F0 m 2636 ls [.int 2, .ref b, .int (xs 1), .ref xa]) (by first | rfl | decide) ?_
  refine va_sld hx hb hX hbl hbA hh.2.2.2.1 (by unfold vp_in; decide) dL_law_2636 ?_
  refine W.eq (g2 := F0 m 2637 ls [.int (xs 2), .int (xs 1), .ref xa]) rfl ?_
  refine lv_aload_n hx hb dL_law_2637 rfl (lv_at hl 5 rfl) ?_
  refine lv_iload hx hb dL_law_2638 (lv_at hl 0 rfl) ?_
  refine lv_iconst (v := 3) hx hb dL_law_2640 (by decide) ?_
  refine lv_iadd hx hb dL_law_2641 ?_
  refine W.eq (g2 := F0 m 2642 ls [.int 3, .ref b, .int (xs 2), .int (xs 1), .ref xa]) (by first | rfl | decide) ?_
  refine va_sld hx hb hX hbl hbA hh.2.2.2.1 (by unfold vp_in; decide) dL_law_2642 ?_
  refine W.eq (g2 := F0 m 2643 ls [.int (xs 3), .int (xs 2), .int (xs 1), .ref xa]) rfl ?_
  refine lv_aload_n hx hb dL_law_2643 rfl (lv_at hl 2 rfl) ?_
  refine k_callSX (wr := [(ma, .inr (16, [.int 0, .ref m1, .ref m2, .ref m3, .ref m4, .ref m5, .ref m6, .ref m7, .ref m8, .int 0, .int 0])), (m8, .inr (4, [.int 0, .ref e0.1, .int 0]))]) (rest := []) (own := RL) ⟨hx, hb, hml, hown, hts⟩ (c_L_damage l hst D e0 xa x1 x2 x3 x4 x5 ((xs 1)) ((xs 2)) ((xs 3)) o1 z3 ((fun _ => 0)) ) (vx_cwSW 5 hts gl_S_c_L_damage rfl rfl rfl (by decide +kernel) ⟨Nat.le_of_ble_eq_true rfl, Nat.le_of_ble_eq_true rfl⟩) hh [0, 3] [1, 2] [0] rfl rfl rfl rfl (by decide) rfl rfl hl rfl (Nat.le_of_ble_eq_true rfl) dL_law_2644 ⟨Nat.le_of_ble_eq_true rfl, (Nat.le_of_ble_eq_true rfl)⟩ (fun _ _ _ _ _ h => h.elim) (fun v w ty1 H locs hp hh => ?_)
  obtain ⟨rfl, rfl, rfl⟩ := hp
  have hh : kH D kStr e0 A s H [(ma, .inr (16, [.int 0, .ref m1, .ref m2, .ref m3, .ref m4, .ref m5, .ref m6, .ref m7, .ref m8, .int 0, .int 0])), (m8, .inr (4, [.int 0, .ref e0.1, .int 0])), (o1, .inl (z3, 1, .inr (.inl (fun _ => 0))))] [(z3, .long), (z3, .long)] _ := hh
  refine W.eq (g2 := F0 m 2647 ls [.int 1]) (by first | rfl | decide) ?_
  refine lv_istore (lv' := [(6, .int 1), (5, .int 0), (4, .ref o2), (3, .ref o1), (2, .ref ma), (1, .ref xa), (0, .ref b)]) hx hb dL_law_2647 hl (by decide) rfl (fun ls hl => ?_)
  refine lv_aload_n hx hb dL_law_2649 rfl (lv_at hl 4 rfl) ?_
  refine lv_aload_n hx hb dL_law_2650 rfl (lv_at hl 6 rfl) ?_
  refine lv_iload hx hb dL_law_2651 (lv_at hl 1 rfl) ?_
  refine lv_iconst (v := 1) hx hb dL_law_2653 (by decide) ?_
  refine lv_iadd hx hb dL_law_2654 ?_
  refine W.eq (g2 := F0 m 2655 ls [.int 1, .ref b, .ref ma]) (by first | rfl | decide) ?_
  refine va_sld hx hb hX hbl hbA hh.2.2.2.1 (by unfold vp_in; decide) dL_law_2655 ?_
  refine W.eq (g2 := F0 m 2656 ls [.int (xs 1), .ref ma]) rfl ?_
  refine lv_aload_n hx hb dL_law_2656 rfl (lv_at hl 6 rfl) ?_
  refine lv_iload hx hb dL_law_2657 (lv_at hl 1 rfl) ?_
  refine lv_iconst (v := 2) hx hb dL_law_2659 (by decide) ?_
  refine lv_iadd hx hb dL_law_2660 ?_
  refine W.eq (g2 := F0 m 2661 ls [.int 2, .ref b, .int (xs 1), .ref ma]) (by first | rfl | decide) ?_
  refine va_sld hx hb hX hbl hbA hh.2.2.2.1 (by unfold vp_in; decide) dL_law_2661 ?_
  refine W.eq (g2 := F0 m 2662 ls [.int (xs 2), .int (xs 1), .ref ma]) rfl ?_
  refine lv_aload_n hx hb dL_law_2662 rfl (lv_at hl 6 rfl) ?_
  refine lv_iload hx hb dL_law_2663 (lv_at hl 1 rfl) ?_
  refine lv_iconst (v := 3) hx hb dL_law_2665 (by decide) ?_
  refine lv_iadd hx hb dL_law_2666 ?_
  refine W.eq (g2 := F0 m 2667 ls [.int 3, .ref b, .int (xs 2), .int (xs 1), .ref ma]) (by first | rfl | decide) ?_
  refine va_sld hx hb hX hbl hbA hh.2.2.2.1 (by unfold vp_in; decide) dL_law_2667 ?_
  refine W.eq (g2 := F0 m 2668 ls [.int (xs 3), .int (xs 2), .int (xs 1), .ref ma]) rfl ?_
  refine k_callV (C := RX11) (T := TX11) (N := 11) (ci := 16) (q0 := 0) (wr := [(o1, .inl (z3, 1, .inr (.inl (fun _ => 0))))]) (rest := []) (own := RL) ⟨hx, hb, hml, hown, hts⟩ (c_X11_damage l hst D e0 ma 0 m1 m2 m3 m4 m5 m6 m7 m8 ((xs 1)) ((xs 2)) ((xs 3)) ) (cwV 3 hts gl_V_c_X11_damage rfl rfl rfl (by decide +kernel) ⟨Nat.le_of_ble_eq_true rfl, Nat.le_of_ble_eq_true rfl⟩) hh rfl rfl [0, 1] [2] [] rfl rfl rfl rfl (by decide) rfl rfl hl rfl (Nat.le_of_ble_eq_true rfl) dL_law_2668 ⟨Nat.le_of_ble_eq_true rfl, (Nat.le_of_ble_eq_true rfl)⟩ (fun _ _ _ _ _ h => h.elim) (fun v w ty1 H locs hp hh => ?_)
  obtain ⟨rfl, rfl, rfl⟩ := hp
  have hh : kH D kStr e0 A s H [(o1, .inl (z3, 1, .inr (.inl (fun _ => 0)))), (ma, .inr (16, [.int 1, .ref m1, .ref m2, .ref m3, .ref m4, .ref m5, .ref m6, .ref m7, .ref m8, .int 0, .int 0]))] [(z3, .long), (z3, .long)] _ := hh
  refine W.eq (g2 := F0 m 2671 ls [.int 0]) (by first | rfl | decide) ?_
  refine lv_istore (lv' := [(7, .int 0), (6, .int 1), (5, .int 0), (4, .ref o2), (3, .ref o1), (2, .ref ma), (1, .ref xa), (0, .ref b)]) hx hb dL_law_2671 hl (by decide) rfl (fun ls hl => ?_)
  refine lv_aload_n hx hb dL_law_2673 rfl (lv_at hl 5 rfl) ?_
  refine k_callV (C := RX11) (T := TX11) (N := 11) (ci := 16) (q0 := 1) (wr := [(o1, .inl (z3, 1, .inr (.inl (fun _ => 0))))]) (rest := []) (own := RL) ⟨hx, hb, hml, hown, hts⟩ (c_X11_thrown l hst D e0 ma 1 m1 m2 m3 m4 m5 m6 m7 m8 ) (cwV 0 hts gl_V_c_X11_thrown rfl rfl rfl (by decide +kernel) ⟨Nat.le_of_ble_eq_true rfl, Nat.le_of_ble_eq_true rfl⟩) hh rfl rfl [1] [0] [] rfl rfl rfl rfl (by decide) rfl rfl hl rfl (Nat.le_of_ble_eq_true rfl) dL_law_2674 ⟨Nat.le_of_ble_eq_true rfl, (Nat.le_of_ble_eq_true rfl)⟩ (fun _ _ _ _ _ h => h.elim) (fun v w ty1 H locs hp hh => ?_)
  obtain ⟨rfl, rfl, rfl⟩ := hp
  have hh : kH D kStr e0 A s H [(o1, .inl (z3, 1, .inr (.inl (fun _ => 0)))), (ma, .inr (16, [.int 1, .ref m1, .ref m2, .ref m3, .ref m4, .ref m5, .ref m6, .ref m7, .ref m8, .int 0, .int 0]))] [(z3, .long), (z3, .long)] _ := hh
  refine W.eq (g2 := F0 m 2677 ls [.int 1]) (by first | rfl | decide) ?_
  refine lv_iload hx hb dL_law_2677 (lv_at hl 1 rfl) ?_
  refine lv_icmp_eq (tgt := 2684) hx hb dL_law_2679 (by decide) (fun _ => ?_) (fun c_2679 => absurd (by decide) c_2679)
  refine lv_iload hx hb dL_law_2684 (lv_at hl 1 rfl) ?_
  refine lv_if_ne (tgt := 2701) hx hb dL_law_2686 (by decide) (fun _ => ?_) (fun c_2686 => absurd c_2686 (by decide))
  refine lv_goto (tgt := 3429) hx hb dL_law_2701 (by decide) ?_
  refine W.widen (k := 1000) (n := 100000) (Nat.le_of_ble_eq_true rfl) (Nat.le_of_ble_eq_true rfl) ?_
  exact kk _ _ _ hh.2.2.2.1 (lv_sub hl [7, 2] rfl)
set_option maxHeartbeats 4000000 in
set_option maxRecDepth 100000 in
theorem law_38 {p : Program} {l : Launch} {e : Env} {s : State} {m : MethodId} {below : List Frame} {meth : Method} {c : Code} {Q : State → Prop} {b : Nat} {xs : Nat → Int32} {D : va_G} {e0 : kE} {A : Nat → Prop} (hst : l.stackTraces = false) (hx : p.tables.exec = Jvm.exec) (hb : c.code = cL_law) (hml : c.maxLocals = 9) (hts : ∀ w ∈ lw_tbl, w.before #[Value.ref b] s = true) (hown : s.vm.findClass RL = some m.cls) (hX : va_X b 5 xs s s.heap) (hbl : b < s.heap.size) (hbA : ¬ A b) {xa x1 x2 x3 x4 x5 g1 g2 g3 g4 h1 h2 h3 h4 h5 ma m1 m2 m3 m4 m5 m6 m7 m8 o1 o2 : Nat} {z1 z2 z3 z4 : ClassId}  {H : Heap} {locs : List Loc} {ls : Array Slot} (hh : kH D kStr e0 A s H (lwW e0 xa x1 x2 x3 x4 x5 g1 g2 g3 g4 h1 h2 h3 h4 h5 ma m1 m2 m3 m4 m5 m6 m7 m8 o1 o2 z1 z2 z3 z4) (lwT z1 z2 z3 z4) locs) (hl : lv_has ls 9 (lwL b xa ma o1 o2)) (kk : lwK p l e s m below meth c Q b A) : W p l e room_1 s m #[Value.ref b] below meth c H locs 100 10000 Q (F0 m 2704 ls []) := by
  have hh : kH D kStr e0 A s H [(xa, .inr (11, [.ref x1, .int 0, .ref x2, .int 0, .ref x3, .ref x4, .ref x5, .int 0])), (ma, .inr (16, [.int 0, .ref m1, .ref m2, .ref m3, .ref m4, .ref m5, .ref m6, .ref m7, .ref m8, .int 0, .int 0])), (m8, .inr (4, [.int 0, .ref e0.1, .int 0])), (o1, .inl (z3, 1, .inr (.inl (fun _ => 0))))] [(z3, .long)] _ := hh.sub [0, 5, 13, 14] [2] rfl rfl rfl
  have hl : lv_has ls 9 [(5, .int 0), (4, .ref o2), (3, .ref o1), (2, .ref ma), (1, .ref xa), (0, .ref b)] := hl
  refine lv_aload_n hx hb dL_law_2704 rfl (lv_at hl 4 rfl) ?_
  refine lv_aload_n hx hb dL_law_2705 rfl (lv_at hl 5 rfl) ?_
  refine lv_iload hx hb dL_law_2706 (lv_at hl 0 rfl) ?_
  refine lv_iconst (v := 1) hx hb dL_law_2708 (by decide) ?_
  refine lv_iadd hx hb dL_law_2709 ?_
  refine W.eq (g2 := F0 m 2710 ls [.int 1, .ref b, .ref xa]) (by first | rfl | decide) ?_
  refine va_sld hx hb hX hbl hbA hh.2.2.2.1 (by unfold vp_in; decide) dL_law_2710 ?_
  refine W.eq (g2 := F0 m 2711 ls [.int (xs 1), .ref xa]) rfl ?_
  refine lv_aload_n hx hb dL_law_2711 rfl (lv_at hl 5 rfl) ?_
  refine lv_iload hx hb dL_law_2712 (lv_at hl 0 rfl) ?_
  refine lv_iconst (v := 2) hx hb dL_law_2714 (by decide) ?_
  refine lv_iadd hx hb dL_law_2715 ?_
  refine W.eq (g2 := F0 m 2716 ls [.int 2, .ref b, .int (xs 1), .ref xa]) (by first | rfl | decide) ?_
  refine va_sld hx hb hX hbl hbA hh.2.2.2.1 (by unfold vp_in; decide) dL_law_2716 ?_
  refine W.eq (g2 := F0 m 2717 ls [.int (xs 2), .int (xs 1), .ref xa]) rfl ?_
  refine lv_aload_n hx hb dL_law_2717 rfl (lv_at hl 2 rfl) ?_
  refine k_callSX (wr := [(ma, .inr (16, [.int 0, .ref m1, .ref m2, .ref m3, .ref m4, .ref m5, .ref m6, .ref m7, .ref m8, .int 0, .int 0])), (m8, .inr (4, [.int 0, .ref e0.1, .int 0]))]) (rest := []) (own := RL) ⟨hx, hb, hml, hown, hts⟩ (c_L_repair l hst D e0 xa x1 x2 x3 x4 x5 ((xs 1)) ((xs 2)) o1 z3 ((fun _ => 0)) ) (vx_cwSW 4 hts gl_S_c_L_repair rfl rfl rfl (by decide +kernel) ⟨Nat.le_of_ble_eq_true rfl, Nat.le_of_ble_eq_true rfl⟩) hh [0, 3] [1, 2] [0] rfl rfl rfl rfl (by decide) rfl rfl hl rfl (Nat.le_of_ble_eq_true rfl) dL_law_2718 ⟨Nat.le_of_ble_eq_true rfl, (Nat.le_of_ble_eq_true rfl)⟩ (fun _ _ _ _ _ h => h.elim) (fun v w ty1 H locs hp hh => ?_)
  obtain ⟨rfl, rfl, rfl⟩ := hp
  have hh : kH D kStr e0 A s H [(ma, .inr (16, [.int 0, .ref m1, .ref m2, .ref m3, .ref m4, .ref m5, .ref m6, .ref m7, .ref m8, .int 0, .int 0])), (m8, .inr (4, [.int 0, .ref e0.1, .int 0])), (o1, .inl (z3, 1, .inr (.inl (fun _ => 0))))] [(z3, .long), (z3, .long)] _ := hh
  refine W.eq (g2 := F0 m 2721 ls [.int 1]) (by first | rfl | decide) ?_
  refine lv_istore (lv' := [(6, .int 1), (5, .int 0), (4, .ref o2), (3, .ref o1), (2, .ref ma), (1, .ref xa), (0, .ref b)]) hx hb dL_law_2721 hl (by decide) rfl (fun ls hl => ?_)
  refine lv_aload_n hx hb dL_law_2723 rfl (lv_at hl 4 rfl) ?_
  refine lv_aload_n hx hb dL_law_2724 rfl (lv_at hl 6 rfl) ?_
  refine lv_iload hx hb dL_law_2725 (lv_at hl 1 rfl) ?_
  refine lv_iconst (v := 1) hx hb dL_law_2727 (by decide) ?_
  refine lv_iadd hx hb dL_law_2728 ?_
  refine W.eq (g2 := F0 m 2729 ls [.int 1, .ref b, .ref ma]) (by first | rfl | decide) ?_
  refine va_sld hx hb hX hbl hbA hh.2.2.2.1 (by unfold vp_in; decide) dL_law_2729 ?_
  refine W.eq (g2 := F0 m 2730 ls [.int (xs 1), .ref ma]) rfl ?_
  refine lv_aload_n hx hb dL_law_2730 rfl (lv_at hl 6 rfl) ?_
  refine lv_iload hx hb dL_law_2731 (lv_at hl 1 rfl) ?_
  refine lv_iconst (v := 2) hx hb dL_law_2733 (by decide) ?_
  refine lv_iadd hx hb dL_law_2734 ?_
  refine W.eq (g2 := F0 m 2735 ls [.int 2, .ref b, .int (xs 1), .ref ma]) (by first | rfl | decide) ?_
  refine va_sld hx hb hX hbl hbA hh.2.2.2.1 (by unfold vp_in; decide) dL_law_2735 ?_
  refine W.eq (g2 := F0 m 2736 ls [.int (xs 2), .int (xs 1), .ref ma]) rfl ?_
  refine k_callV (C := RX11) (T := TX11) (N := 11) (ci := 16) (q0 := 0) (wr := [(o1, .inl (z3, 1, .inr (.inl (fun _ => 0))))]) (rest := []) (own := RL) ⟨hx, hb, hml, hown, hts⟩ (c_X11_repair l hst D e0 ma 0 m1 m2 m3 m4 m5 m6 m7 m8 ((xs 1)) ((xs 2)) ) (cwV 2 hts gl_V_c_X11_repair rfl rfl rfl (by decide +kernel) ⟨Nat.le_of_ble_eq_true rfl, Nat.le_of_ble_eq_true rfl⟩) hh rfl rfl [0, 1] [2] [] rfl rfl rfl rfl (by decide) rfl rfl hl rfl (Nat.le_of_ble_eq_true rfl) dL_law_2736 ⟨Nat.le_of_ble_eq_true rfl, (Nat.le_of_ble_eq_true rfl)⟩ (fun _ _ _ _ _ h => h.elim) (fun v w ty1 H locs hp hh => ?_)
  obtain ⟨rfl, rfl, rfl⟩ := hp
  have hh : kH D kStr e0 A s H [(o1, .inl (z3, 1, .inr (.inl (fun _ => 0)))), (ma, .inr (16, [.int 1, .ref m1, .ref m2, .ref m3, .ref m4, .ref m5, .ref m6, .ref m7, .ref m8, .int 0, .int 0]))] [(z3, .long), (z3, .long)] _ := hh
  refine W.eq (g2 := F0 m 2739 ls [.int 0]) (by first | rfl | decide) ?_
  refine lv_istore (lv' := [(7, .int 0), (6, .int 1), (5, .int 0), (4, .ref o2), (3, .ref o1), (2, .ref ma), (1, .ref xa), (0, .ref b)]) hx hb dL_law_2739 hl (by decide) rfl (fun ls hl => ?_)
  refine lv_aload_n hx hb dL_law_2741 rfl (lv_at hl 5 rfl) ?_
  refine k_callV (C := RX11) (T := TX11) (N := 11) (ci := 16) (q0 := 1) (wr := [(o1, .inl (z3, 1, .inr (.inl (fun _ => 0))))]) (rest := []) (own := RL) ⟨hx, hb, hml, hown, hts⟩ (c_X11_thrown l hst D e0 ma 1 m1 m2 m3 m4 m5 m6 m7 m8 ) (cwV 0 hts gl_V_c_X11_thrown rfl rfl rfl (by decide +kernel) ⟨Nat.le_of_ble_eq_true rfl, Nat.le_of_ble_eq_true rfl⟩) hh rfl rfl [1] [0] [] rfl rfl rfl rfl (by decide) rfl rfl hl rfl (Nat.le_of_ble_eq_true rfl) dL_law_2742 ⟨Nat.le_of_ble_eq_true rfl, (Nat.le_of_ble_eq_true rfl)⟩ (fun _ _ _ _ _ h => h.elim) (fun v w ty1 H locs hp hh => ?_)
  obtain ⟨rfl, rfl, rfl⟩ := hp
  have hh : kH D kStr e0 A s H [(o1, .inl (z3, 1, .inr (.inl (fun _ => 0)))), (ma, .inr (16, [.int 1, .ref m1, .ref m2, .ref m3, .ref m4, .ref m5, .ref m6, .ref m7, .ref m8, .int 0, .int 0]))] [(z3, .long), (z3, .long)] _ := hh
  refine W.eq (g2 := F0 m 2745 ls [.int 1]) (by first | rfl | decide) ?_
  refine lv_iload hx hb dL_law_2745 (lv_at hl 1 rfl) ?_
  refine lv_icmp_eq (tgt := 2752) hx hb dL_law_2747 (by decide) (fun _ => ?_) (fun c_2747 => absurd (by decide) c_2747)
  refine lv_iload hx hb dL_law_2752 (lv_at hl 1 rfl) ?_
  refine lv_if_ne (tgt := 2769) hx hb dL_law_2754 (by decide) (fun _ => ?_) (fun c_2754 => absurd c_2754 (by decide))
  refine lv_goto (tgt := 3429) hx hb dL_law_2769 (by decide) ?_
  refine W.widen (k := 1000) (n := 100000) (Nat.le_of_ble_eq_true rfl) (Nat.le_of_ble_eq_true rfl) ?_
  exact kk _ _ _ hh.2.2.2.1 (lv_sub hl [7, 2] rfl)
set_option maxHeartbeats 4000000 in
set_option maxRecDepth 100000 in
theorem law_39 {p : Program} {l : Launch} {e : Env} {s : State} {m : MethodId} {below : List Frame} {meth : Method} {c : Code} {Q : State → Prop} {b : Nat} {xs : Nat → Int32} {D : va_G} {e0 : kE} {A : Nat → Prop} (hst : l.stackTraces = false) (hx : p.tables.exec = Jvm.exec) (hb : c.code = cL_law) (hml : c.maxLocals = 9) (hts : ∀ w ∈ lw_tbl, w.before #[Value.ref b] s = true) (hown : s.vm.findClass RL = some m.cls) (hX : va_X b 5 xs s s.heap) (hbl : b < s.heap.size) (hbA : ¬ A b) {xa x1 x2 x3 x4 x5 g1 g2 g3 g4 h1 h2 h3 h4 h5 ma m1 m2 m3 m4 m5 m6 m7 m8 o1 o2 : Nat} {z1 z2 z3 z4 : ClassId}  {H : Heap} {locs : List Loc} {ls : Array Slot} (hh : kH D kStr e0 A s H (lwW e0 xa x1 x2 x3 x4 x5 g1 g2 g3 g4 h1 h2 h3 h4 h5 ma m1 m2 m3 m4 m5 m6 m7 m8 o1 o2 z1 z2 z3 z4) (lwT z1 z2 z3 z4) locs) (hl : lv_has ls 9 (lwL b xa ma o1 o2)) (kk : lwK p l e s m below meth c Q b A) : W p l e room_1 s m #[Value.ref b] below meth c H locs 100 10000 Q (F0 m 2772 ls []) := by
  have hh : kH D kStr e0 A s H [(xa, .inr (11, [.ref x1, .int 0, .ref x2, .int 0, .ref x3, .ref x4, .ref x5, .int 0])), (ma, .inr (16, [.int 0, .ref m1, .ref m2, .ref m3, .ref m4, .ref m5, .ref m6, .ref m7, .ref m8, .int 0, .int 0])), (m2, .inr (4, [.int 0, .ref e0.1, .int 0])), (o1, .inl (z3, 1, .inr (.inl (fun _ => 0))))] [(z3, .long)] _ := hh.sub [0, 5, 7, 14] [2] rfl rfl rfl
  have hl : lv_has ls 9 [(5, .int 0), (4, .ref o2), (3, .ref o1), (2, .ref ma), (1, .ref xa), (0, .ref b)] := hl
  refine lv_aload_n hx hb dL_law_2772 rfl (lv_at hl 4 rfl) ?_
  refine lv_aload_n hx hb dL_law_2773 rfl (lv_at hl 5 rfl) ?_
  refine lv_iload hx hb dL_law_2774 (lv_at hl 0 rfl) ?_
  refine lv_iconst (v := 1) hx hb dL_law_2776 (by decide) ?_
  refine lv_iadd hx hb dL_law_2777 ?_
  refine W.eq (g2 := F0 m 2778 ls [.int 1, .ref b, .ref xa]) (by first | rfl | decide) ?_
  refine va_sld hx hb hX hbl hbA hh.2.2.2.1 (by unfold vp_in; decide) dL_law_2778 ?_
  refine W.eq (g2 := F0 m 2779 ls [.int (xs 1), .ref xa]) rfl ?_
  refine lv_aload_n hx hb dL_law_2779 rfl (lv_at hl 5 rfl) ?_
  refine lv_iload hx hb dL_law_2780 (lv_at hl 0 rfl) ?_
  refine lv_iconst (v := 2) hx hb dL_law_2782 (by decide) ?_
  refine lv_iadd hx hb dL_law_2783 ?_
  refine W.eq (g2 := F0 m 2784 ls [.int 2, .ref b, .int (xs 1), .ref xa]) (by first | rfl | decide) ?_
  refine va_sld hx hb hX hbl hbA hh.2.2.2.1 (by unfold vp_in; decide) dL_law_2784 ?_
  refine W.eq (g2 := F0 m 2785 ls [.int (xs 2), .int (xs 1), .ref xa]) rfl ?_
  refine lv_aload_n hx hb dL_law_2785 rfl (lv_at hl 5 rfl) ?_
  refine lv_iload hx hb dL_law_2786 (lv_at hl 0 rfl) ?_
  refine lv_iconst (v := 3) hx hb dL_law_2788 (by decide) ?_
  refine lv_iadd hx hb dL_law_2789 ?_
  refine W.eq (g2 := F0 m 2790 ls [.int 3, .ref b, .int (xs 2), .int (xs 1), .ref xa]) (by first | rfl | decide) ?_
  refine va_sld hx hb hX hbl hbA hh.2.2.2.1 (by unfold vp_in; decide) dL_law_2790 ?_
  refine W.eq (g2 := F0 m 2791 ls [.int (xs 3), .int (xs 2), .int (xs 1), .ref xa]) rfl ?_
  refine lv_aload_n hx hb dL_law_2791 rfl (lv_at hl 2 rfl) ?_
  refine k_callSX (wr := [(ma, .inr (16, [.int 0, .ref m1, .ref m2, .ref m3, .ref m4, .ref m5, .ref m6, .ref m7, .ref m8, .int 0, .int 0])), (m2, .inr (4, [.int 0, .ref e0.1, .int 0]))]) (rest := []) (own := RL) ⟨hx, hb, hml, hown, hts⟩ (c_L_padding l hst D e0 xa x1 x2 x3 x4 x5 ((xs 1)) ((xs 2)) ((xs 3)) o1 z3 ((fun _ => 0)) ) (vx_cwSW 5 hts gl_S_c_L_padding rfl rfl rfl (by decide +kernel) ⟨Nat.le_of_ble_eq_true rfl, Nat.le_of_ble_eq_true rfl⟩) hh [0, 3] [1, 2] [0] rfl rfl rfl rfl (by decide) rfl rfl hl rfl (Nat.le_of_ble_eq_true rfl) dL_law_2792 ⟨Nat.le_of_ble_eq_true rfl, (Nat.le_of_ble_eq_true rfl)⟩ (fun _ _ _ _ _ h => h.elim) (fun v w ty1 H locs hp hh => ?_)
  obtain ⟨rfl, rfl, rfl⟩ := hp
  have hh : kH D kStr e0 A s H [(ma, .inr (16, [.int 0, .ref m1, .ref m2, .ref m3, .ref m4, .ref m5, .ref m6, .ref m7, .ref m8, .int 0, .int 0])), (m2, .inr (4, [.int 0, .ref e0.1, .int 0])), (o1, .inl (z3, 1, .inr (.inl (fun _ => 0))))] [(z3, .long), (z3, .long)] _ := hh
  refine W.eq (g2 := F0 m 2795 ls [.int 1]) (by first | rfl | decide) ?_
  refine lv_istore (lv' := [(6, .int 1), (5, .int 0), (4, .ref o2), (3, .ref o1), (2, .ref ma), (1, .ref xa), (0, .ref b)]) hx hb dL_law_2795 hl (by decide) rfl (fun ls hl => ?_)
  refine lv_aload_n hx hb dL_law_2797 rfl (lv_at hl 4 rfl) ?_
  refine lv_aload_n hx hb dL_law_2798 rfl (lv_at hl 6 rfl) ?_
  refine lv_iload hx hb dL_law_2799 (lv_at hl 1 rfl) ?_
  refine lv_iconst (v := 1) hx hb dL_law_2801 (by decide) ?_
  refine lv_iadd hx hb dL_law_2802 ?_
  refine W.eq (g2 := F0 m 2803 ls [.int 1, .ref b, .ref ma]) (by first | rfl | decide) ?_
  refine va_sld hx hb hX hbl hbA hh.2.2.2.1 (by unfold vp_in; decide) dL_law_2803 ?_
  refine W.eq (g2 := F0 m 2804 ls [.int (xs 1), .ref ma]) rfl ?_
  refine lv_aload_n hx hb dL_law_2804 rfl (lv_at hl 6 rfl) ?_
  refine lv_iload hx hb dL_law_2805 (lv_at hl 1 rfl) ?_
  refine lv_iconst (v := 2) hx hb dL_law_2807 (by decide) ?_
  refine lv_iadd hx hb dL_law_2808 ?_
  refine W.eq (g2 := F0 m 2809 ls [.int 2, .ref b, .int (xs 1), .ref ma]) (by first | rfl | decide) ?_
  refine va_sld hx hb hX hbl hbA hh.2.2.2.1 (by unfold vp_in; decide) dL_law_2809 ?_
  refine W.eq (g2 := F0 m 2810 ls [.int (xs 2), .int (xs 1), .ref ma]) rfl ?_
  refine lv_aload_n hx hb dL_law_2810 rfl (lv_at hl 6 rfl) ?_
  refine lv_iload hx hb dL_law_2811 (lv_at hl 1 rfl) ?_
  refine lv_iconst (v := 3) hx hb dL_law_2813 (by decide) ?_
  refine lv_iadd hx hb dL_law_2814 ?_
  refine W.eq (g2 := F0 m 2815 ls [.int 3, .ref b, .int (xs 2), .int (xs 1), .ref ma]) (by first | rfl | decide) ?_
  refine va_sld hx hb hX hbl hbA hh.2.2.2.1 (by unfold vp_in; decide) dL_law_2815 ?_
  refine W.eq (g2 := F0 m 2816 ls [.int (xs 3), .int (xs 2), .int (xs 1), .ref ma]) rfl ?_
  refine k_callV (C := RX11) (T := TX11) (N := 11) (ci := 16) (q0 := 0) (wr := [(o1, .inl (z3, 1, .inr (.inl (fun _ => 0))))]) (rest := []) (own := RL) ⟨hx, hb, hml, hown, hts⟩ (c_X11_padding l hst D e0 ma 0 m1 m2 m3 m4 m5 m6 m7 m8 ((xs 1)) ((xs 2)) ((xs 3)) ) (cwV 3 hts gl_V_c_X11_padding rfl rfl rfl (by decide +kernel) ⟨Nat.le_of_ble_eq_true rfl, Nat.le_of_ble_eq_true rfl⟩) hh rfl rfl [0, 1] [2] [] rfl rfl rfl rfl (by decide) rfl rfl hl rfl (Nat.le_of_ble_eq_true rfl) dL_law_2816 ⟨Nat.le_of_ble_eq_true rfl, (Nat.le_of_ble_eq_true rfl)⟩ (fun _ _ _ _ _ h => h.elim) (fun v w ty1 H locs hp hh => ?_)
  obtain ⟨rfl, rfl, rfl⟩ := hp
  have hh : kH D kStr e0 A s H [(o1, .inl (z3, 1, .inr (.inl (fun _ => 0)))), (ma, .inr (16, [.int 1, .ref m1, .ref m2, .ref m3, .ref m4, .ref m5, .ref m6, .ref m7, .ref m8, .int 0, .int 0]))] [(z3, .long), (z3, .long)] _ := hh
  refine W.eq (g2 := F0 m 2819 ls [.int 0]) (by first | rfl | decide) ?_
  refine lv_istore (lv' := [(7, .int 0), (6, .int 1), (5, .int 0), (4, .ref o2), (3, .ref o1), (2, .ref ma), (1, .ref xa), (0, .ref b)]) hx hb dL_law_2819 hl (by decide) rfl (fun ls hl => ?_)
  refine lv_aload_n hx hb dL_law_2821 rfl (lv_at hl 5 rfl) ?_
  refine k_callV (C := RX11) (T := TX11) (N := 11) (ci := 16) (q0 := 1) (wr := [(o1, .inl (z3, 1, .inr (.inl (fun _ => 0))))]) (rest := []) (own := RL) ⟨hx, hb, hml, hown, hts⟩ (c_X11_thrown l hst D e0 ma 1 m1 m2 m3 m4 m5 m6 m7 m8 ) (cwV 0 hts gl_V_c_X11_thrown rfl rfl rfl (by decide +kernel) ⟨Nat.le_of_ble_eq_true rfl, Nat.le_of_ble_eq_true rfl⟩) hh rfl rfl [1] [0] [] rfl rfl rfl rfl (by decide) rfl rfl hl rfl (Nat.le_of_ble_eq_true rfl) dL_law_2822 ⟨Nat.le_of_ble_eq_true rfl, (Nat.le_of_ble_eq_true rfl)⟩ (fun _ _ _ _ _ h => h.elim) (fun v w ty1 H locs hp hh => ?_)
  obtain ⟨rfl, rfl, rfl⟩ := hp
  have hh : kH D kStr e0 A s H [(o1, .inl (z3, 1, .inr (.inl (fun _ => 0)))), (ma, .inr (16, [.int 1, .ref m1, .ref m2, .ref m3, .ref m4, .ref m5, .ref m6, .ref m7, .ref m8, .int 0, .int 0]))] [(z3, .long), (z3, .long)] _ := hh
  refine W.eq (g2 := F0 m 2825 ls [.int 1]) (by first | rfl | decide) ?_
  refine lv_iload hx hb dL_law_2825 (lv_at hl 1 rfl) ?_
  refine lv_icmp_eq (tgt := 2832) hx hb dL_law_2827 (by decide) (fun _ => ?_) (fun c_2827 => absurd (by decide) c_2827)
  refine lv_iload hx hb dL_law_2832 (lv_at hl 1 rfl) ?_
  refine lv_if_ne (tgt := 2849) hx hb dL_law_2834 (by decide) (fun _ => ?_) (fun c_2834 => absurd c_2834 (by decide))
  refine lv_goto (tgt := 3429) hx hb dL_law_2849 (by decide) ?_
  refine W.widen (k := 1000) (n := 100000) (Nat.le_of_ble_eq_true rfl) (Nat.le_of_ble_eq_true rfl) ?_
  exact kk _ _ _ hh.2.2.2.1 (lv_sub hl [7, 2] rfl)
set_option maxHeartbeats 4000000 in
set_option maxRecDepth 100000 in
theorem law_41 {p : Program} {l : Launch} {e : Env} {s : State} {m : MethodId} {below : List Frame} {meth : Method} {c : Code} {Q : State → Prop} {b : Nat} {xs : Nat → Int32} {D : va_G} {e0 : kE} {A : Nat → Prop} (hst : l.stackTraces = false) (hx : p.tables.exec = Jvm.exec) (hb : c.code = cL_law) (hml : c.maxLocals = 9) (hts : ∀ w ∈ lw_tbl, w.before #[Value.ref b] s = true) (hown : s.vm.findClass RL = some m.cls) (hX : va_X b 5 xs s s.heap) (hbl : b < s.heap.size) (hbA : ¬ A b) {xa x1 x2 x3 x4 x5 g1 g2 g3 g4 h1 h2 h3 h4 h5 ma m1 m2 m3 m4 m5 m6 m7 m8 o1 o2 : Nat} {z1 z2 z3 z4 : ClassId}  {H : Heap} {locs : List Loc} {ls : Array Slot} (hh : kH D kStr e0 A s H (lwW e0 xa x1 x2 x3 x4 x5 g1 g2 g3 g4 h1 h2 h3 h4 h5 ma m1 m2 m3 m4 m5 m6 m7 m8 o1 o2 z1 z2 z3 z4) (lwT z1 z2 z3 z4) locs) (hl : lv_has ls 9 (lwL b xa ma o1 o2)) (kk : lwK p l e s m below meth c Q b A) : W p l e room_1 s m #[Value.ref b] below meth c H locs 100 10000 Q (F0 m 2920 ls []) := by
  have hh : kH D kStr e0 A s H [(xa, .inr (11, [.ref x1, .int 0, .ref x2, .int 0, .ref x3, .ref x4, .ref x5, .int 0])), (x3, .inr (9, [.ref g1, .int 0, .ref g2, .int 0, .ref g3, .ref g4])), (ma, .inr (16, [.int 0, .ref m1, .ref m2, .ref m3, .ref m4, .ref m5, .ref m6, .ref m7, .ref m8, .int 0, .int 0])), (m3, .inr (4, [.int 0, .ref e0.1, .int 0])), (o1, .inl (z3, 1, .inr (.inl (fun _ => 0))))] [(z3, .long)] _ := hh.sub [0, 1, 5, 8, 14] [2] rfl rfl rfl
  have hl : lv_has ls 9 [(5, .int 0), (4, .ref o2), (3, .ref o1), (2, .ref ma), (1, .ref xa), (0, .ref b)] := hl
  refine lv_aload_n hx hb dL_law_2920 rfl (lv_at hl 4 rfl) ?_
  refine lv_aload_n hx hb dL_law_2921 rfl (lv_at hl 5 rfl) ?_
  refine lv_iload hx hb dL_law_2922 (lv_at hl 0 rfl) ?_
  refine lv_iconst (v := 1) hx hb dL_law_2924 (by decide) ?_
  refine lv_iadd hx hb dL_law_2925 ?_
  refine W.eq (g2 := F0 m 2926 ls [.int 1, .ref b, .ref xa]) (by first | rfl | decide) ?_
  refine va_sld hx hb hX hbl hbA hh.2.2.2.1 (by unfold vp_in; decide) dL_law_2926 ?_
  refine W.eq (g2 := F0 m 2927 ls [.int (xs 1), .ref xa]) rfl ?_
  refine lv_aload_n hx hb dL_law_2927 rfl (lv_at hl 5 rfl) ?_
  refine lv_iload hx hb dL_law_2928 (lv_at hl 0 rfl) ?_
  refine lv_iconst (v := 2) hx hb dL_law_2930 (by decide) ?_
  refine lv_iadd hx hb dL_law_2931 ?_
  refine W.eq (g2 := F0 m 2932 ls [.int 2, .ref b, .int (xs 1), .ref xa]) (by first | rfl | decide) ?_
  refine va_sld hx hb hX hbl hbA hh.2.2.2.1 (by unfold vp_in; decide) dL_law_2932 ?_
  refine W.eq (g2 := F0 m 2933 ls [.int (xs 2), .int (xs 1), .ref xa]) rfl ?_
  refine lv_aload_n hx hb dL_law_2933 rfl (lv_at hl 5 rfl) ?_
  refine lv_iload hx hb dL_law_2934 (lv_at hl 0 rfl) ?_
  refine lv_iconst (v := 3) hx hb dL_law_2936 (by decide) ?_
  refine lv_iadd hx hb dL_law_2937 ?_
  refine W.eq (g2 := F0 m 2938 ls [.int 3, .ref b, .int (xs 2), .int (xs 1), .ref xa]) (by first | rfl | decide) ?_
  refine va_sld hx hb hX hbl hbA hh.2.2.2.1 (by unfold vp_in; decide) dL_law_2938 ?_
  refine W.eq (g2 := F0 m 2939 ls [.int (xs 3), .int (xs 2), .int (xs 1), .ref xa]) rfl ?_
  refine lv_aload_n hx hb dL_law_2939 rfl (lv_at hl 2 rfl) ?_
  refine k_callSX (wr := [(ma, .inr (16, [.int 0, .ref m1, .ref m2, .ref m3, .ref m4, .ref m5, .ref m6, .ref m7, .ref m8, .int 0, .int 0])), (m3, .inr (4, [.int 0, .ref e0.1, .int 0]))]) (rest := []) (own := RL) ⟨hx, hb, hml, hown, hts⟩ (c_L_split l hst D e0 xa x1 x2 x3 x4 x5 g1 g2 g3 g4 ((xs 1)) ((xs 2)) ((xs 3)) o1 z3 ((fun _ => 0)) ) (vx_cwSW 5 hts gl_S_c_L_split rfl rfl rfl (by decide +kernel) ⟨Nat.le_of_ble_eq_true rfl, Nat.le_of_ble_eq_true rfl⟩) hh [0, 1, 4] [2, 3] [0] rfl rfl rfl rfl (by decide) rfl rfl hl rfl (Nat.le_of_ble_eq_true rfl) dL_law_2940 ⟨Nat.le_of_ble_eq_true rfl, (Nat.le_of_ble_eq_true rfl)⟩ (fun _ _ _ _ _ h => h.elim) (fun v w ty1 H locs hp hh => ?_)
  obtain ⟨rfl, rfl, rfl⟩ := hp
  have hh : kH D kStr e0 A s H [(ma, .inr (16, [.int 0, .ref m1, .ref m2, .ref m3, .ref m4, .ref m5, .ref m6, .ref m7, .ref m8, .int 0, .int 0])), (m3, .inr (4, [.int 0, .ref e0.1, .int 0])), (o1, .inl (z3, 1, .inr (.inl (fun _ => 0))))] [(z3, .long), (z3, .long)] _ := hh
  refine W.eq (g2 := F0 m 2943 ls [.int 1]) (by first | rfl | decide) ?_
  refine lv_istore (lv' := [(6, .int 1), (5, .int 0), (4, .ref o2), (3, .ref o1), (2, .ref ma), (1, .ref xa), (0, .ref b)]) hx hb dL_law_2943 hl (by decide) rfl (fun ls hl => ?_)
  refine lv_aload_n hx hb dL_law_2945 rfl (lv_at hl 4 rfl) ?_
  refine lv_aload_n hx hb dL_law_2946 rfl (lv_at hl 6 rfl) ?_
  refine lv_iload hx hb dL_law_2947 (lv_at hl 1 rfl) ?_
  refine lv_iconst (v := 1) hx hb dL_law_2949 (by decide) ?_
  refine lv_iadd hx hb dL_law_2950 ?_
  refine W.eq (g2 := F0 m 2951 ls [.int 1, .ref b, .ref ma]) (by first | rfl | decide) ?_
  refine va_sld hx hb hX hbl hbA hh.2.2.2.1 (by unfold vp_in; decide) dL_law_2951 ?_
  refine W.eq (g2 := F0 m 2952 ls [.int (xs 1), .ref ma]) rfl ?_
  refine lv_aload_n hx hb dL_law_2952 rfl (lv_at hl 6 rfl) ?_
  refine lv_iload hx hb dL_law_2953 (lv_at hl 1 rfl) ?_
  refine lv_iconst (v := 2) hx hb dL_law_2955 (by decide) ?_
  refine lv_iadd hx hb dL_law_2956 ?_
  refine W.eq (g2 := F0 m 2957 ls [.int 2, .ref b, .int (xs 1), .ref ma]) (by first | rfl | decide) ?_
  refine va_sld hx hb hX hbl hbA hh.2.2.2.1 (by unfold vp_in; decide) dL_law_2957 ?_
  refine W.eq (g2 := F0 m 2958 ls [.int (xs 2), .int (xs 1), .ref ma]) rfl ?_
  refine lv_aload_n hx hb dL_law_2958 rfl (lv_at hl 6 rfl) ?_
  refine lv_iload hx hb dL_law_2959 (lv_at hl 1 rfl) ?_
  refine lv_iconst (v := 3) hx hb dL_law_2961 (by decide) ?_
  refine lv_iadd hx hb dL_law_2962 ?_
  refine W.eq (g2 := F0 m 2963 ls [.int 3, .ref b, .int (xs 2), .int (xs 1), .ref ma]) (by first | rfl | decide) ?_
  refine va_sld hx hb hX hbl hbA hh.2.2.2.1 (by unfold vp_in; decide) dL_law_2963 ?_
  refine W.eq (g2 := F0 m 2964 ls [.int (xs 3), .int (xs 2), .int (xs 1), .ref ma]) rfl ?_
  refine k_callV (C := RX11) (T := TX11) (N := 11) (ci := 16) (q0 := 0) (wr := [(o1, .inl (z3, 1, .inr (.inl (fun _ => 0))))]) (rest := []) (own := RL) ⟨hx, hb, hml, hown, hts⟩ (c_X11_split l hst D e0 ma 0 m1 m2 m3 m4 m5 m6 m7 m8 ((xs 1)) ((xs 2)) ((xs 3)) ) (cwV 3 hts gl_V_c_X11_split rfl rfl rfl (by decide +kernel) ⟨Nat.le_of_ble_eq_true rfl, Nat.le_of_ble_eq_true rfl⟩) hh rfl rfl [0, 1] [2] [] rfl rfl rfl rfl (by decide) rfl rfl hl rfl (Nat.le_of_ble_eq_true rfl) dL_law_2964 ⟨Nat.le_of_ble_eq_true rfl, (Nat.le_of_ble_eq_true rfl)⟩ (fun _ _ _ _ _ h => h.elim) (fun v w ty1 H locs hp hh => ?_)
  obtain ⟨rfl, rfl, rfl⟩ := hp
  have hh : kH D kStr e0 A s H [(o1, .inl (z3, 1, .inr (.inl (fun _ => 0)))), (ma, .inr (16, [.int 1, .ref m1, .ref m2, .ref m3, .ref m4, .ref m5, .ref m6, .ref m7, .ref m8, .int 0, .int 0]))] [(z3, .long), (z3, .long)] _ := hh
  refine W.eq (g2 := F0 m 2967 ls [.int 0]) (by first | rfl | decide) ?_
  refine lv_istore (lv' := [(7, .int 0), (6, .int 1), (5, .int 0), (4, .ref o2), (3, .ref o1), (2, .ref ma), (1, .ref xa), (0, .ref b)]) hx hb dL_law_2967 hl (by decide) rfl (fun ls hl => ?_)
  refine lv_aload_n hx hb dL_law_2969 rfl (lv_at hl 5 rfl) ?_
  refine k_callV (C := RX11) (T := TX11) (N := 11) (ci := 16) (q0 := 1) (wr := [(o1, .inl (z3, 1, .inr (.inl (fun _ => 0))))]) (rest := []) (own := RL) ⟨hx, hb, hml, hown, hts⟩ (c_X11_thrown l hst D e0 ma 1 m1 m2 m3 m4 m5 m6 m7 m8 ) (cwV 0 hts gl_V_c_X11_thrown rfl rfl rfl (by decide +kernel) ⟨Nat.le_of_ble_eq_true rfl, Nat.le_of_ble_eq_true rfl⟩) hh rfl rfl [1] [0] [] rfl rfl rfl rfl (by decide) rfl rfl hl rfl (Nat.le_of_ble_eq_true rfl) dL_law_2970 ⟨Nat.le_of_ble_eq_true rfl, (Nat.le_of_ble_eq_true rfl)⟩ (fun _ _ _ _ _ h => h.elim) (fun v w ty1 H locs hp hh => ?_)
  obtain ⟨rfl, rfl, rfl⟩ := hp
  have hh : kH D kStr e0 A s H [(o1, .inl (z3, 1, .inr (.inl (fun _ => 0)))), (ma, .inr (16, [.int 1, .ref m1, .ref m2, .ref m3, .ref m4, .ref m5, .ref m6, .ref m7, .ref m8, .int 0, .int 0]))] [(z3, .long), (z3, .long)] _ := hh
  refine W.eq (g2 := F0 m 2973 ls [.int 1]) (by first | rfl | decide) ?_
  refine lv_iload hx hb dL_law_2973 (lv_at hl 1 rfl) ?_
  refine lv_icmp_eq (tgt := 2980) hx hb dL_law_2975 (by decide) (fun _ => ?_) (fun c_2975 => absurd (by decide) c_2975)
  refine lv_iload hx hb dL_law_2980 (lv_at hl 1 rfl) ?_
  refine lv_if_ne (tgt := 2997) hx hb dL_law_2982 (by decide) (fun _ => ?_) (fun c_2982 => absurd c_2982 (by decide))
  refine lv_goto (tgt := 3429) hx hb dL_law_2997 (by decide) ?_
  refine W.widen (k := 1000) (n := 100000) (Nat.le_of_ble_eq_true rfl) (Nat.le_of_ble_eq_true rfl) ?_
  exact kk _ _ _ hh.2.2.2.1 (lv_sub hl [7, 2] rfl)
set_option maxHeartbeats 4000000 in
set_option maxRecDepth 100000 in
theorem law_42 {p : Program} {l : Launch} {e : Env} {s : State} {m : MethodId} {below : List Frame} {meth : Method} {c : Code} {Q : State → Prop} {b : Nat} {xs : Nat → Int32} {D : va_G} {e0 : kE} {A : Nat → Prop} (hst : l.stackTraces = false) (hx : p.tables.exec = Jvm.exec) (hb : c.code = cL_law) (hml : c.maxLocals = 9) (hts : ∀ w ∈ lw_tbl, w.before #[Value.ref b] s = true) (hown : s.vm.findClass RL = some m.cls) (hX : va_X b 5 xs s s.heap) (hbl : b < s.heap.size) (hbA : ¬ A b) {xa x1 x2 x3 x4 x5 g1 g2 g3 g4 h1 h2 h3 h4 h5 ma m1 m2 m3 m4 m5 m6 m7 m8 o1 o2 : Nat} {z1 z2 z3 z4 : ClassId}  {H : Heap} {locs : List Loc} {ls : Array Slot} (hh : kH D kStr e0 A s H (lwW e0 xa x1 x2 x3 x4 x5 g1 g2 g3 g4 h1 h2 h3 h4 h5 ma m1 m2 m3 m4 m5 m6 m7 m8 o1 o2 z1 z2 z3 z4) (lwT z1 z2 z3 z4) locs) (hl : lv_has ls 9 (lwL b xa ma o1 o2)) (kk : lwK p l e s m below meth c Q b A) : W p l e room_1 s m #[Value.ref b] below meth c H locs 100 10000 Q (F0 m 3000 ls []) := by
  have hh : kH D kStr e0 A s H [(xa, .inr (11, [.ref x1, .int 0, .ref x2, .int 0, .ref x3, .ref x4, .ref x5, .int 0])), (x3, .inr (9, [.ref g1, .int 0, .ref g2, .int 0, .ref g3, .ref g4])), (ma, .inr (16, [.int 0, .ref m1, .ref m2, .ref m3, .ref m4, .ref m5, .ref m6, .ref m7, .ref m8, .int 0, .int 0])), (m3, .inr (4, [.int 0, .ref e0.1, .int 0])), (o1, .inl (z3, 1, .inr (.inl (fun _ => 0))))] [(z3, .long)] _ := hh.sub [0, 1, 5, 8, 14] [2] rfl rfl rfl
  have hl : lv_has ls 9 [(5, .int 0), (4, .ref o2), (3, .ref o1), (2, .ref ma), (1, .ref xa), (0, .ref b)] := hl
  refine lv_aload_n hx hb dL_law_3000 rfl (lv_at hl 4 rfl) ?_
  refine lv_aload_n hx hb dL_law_3001 rfl (lv_at hl 5 rfl) ?_
  refine lv_iload hx hb dL_law_3002 (lv_at hl 0 rfl) ?_
  refine lv_iconst (v := 1) hx hb dL_law_3004 (by decide) ?_
  refine lv_iadd hx hb dL_law_3005 ?_
  refine W.eq (g2 := F0 m 3006 ls [.int 1, .ref b, .ref xa]) (by first | rfl | decide) ?_
  refine va_sld hx hb hX hbl hbA hh.2.2.2.1 (by unfold vp_in; decide) dL_law_3006 ?_
  refine W.eq (g2 := F0 m 3007 ls [.int (xs 1), .ref xa]) rfl ?_
  refine lv_aload_n hx hb dL_law_3007 rfl (lv_at hl 5 rfl) ?_
  refine lv_iload hx hb dL_law_3008 (lv_at hl 0 rfl) ?_
  refine lv_iconst (v := 2) hx hb dL_law_3010 (by decide) ?_
  refine lv_iadd hx hb dL_law_3011 ?_
  refine W.eq (g2 := F0 m 3012 ls [.int 2, .ref b, .int (xs 1), .ref xa]) (by first | rfl | decide) ?_
  refine va_sld hx hb hX hbl hbA hh.2.2.2.1 (by unfold vp_in; decide) dL_law_3012 ?_
  refine W.eq (g2 := F0 m 3013 ls [.int (xs 2), .int (xs 1), .ref xa]) rfl ?_
  refine lv_aload_n hx hb dL_law_3013 rfl (lv_at hl 2 rfl) ?_
  refine k_callSX (wr := [(ma, .inr (16, [.int 0, .ref m1, .ref m2, .ref m3, .ref m4, .ref m5, .ref m6, .ref m7, .ref m8, .int 0, .int 0])), (m3, .inr (4, [.int 0, .ref e0.1, .int 0]))]) (rest := []) (own := RL) ⟨hx, hb, hml, hown, hts⟩ (c_L_play l hst D e0 xa x1 x2 x3 x4 x5 g1 g2 g3 g4 ((xs 1)) ((xs 2)) o1 z3 ((fun _ => 0)) ) (vx_cwSW 4 hts gl_S_c_L_play rfl rfl rfl (by decide +kernel) ⟨Nat.le_of_ble_eq_true rfl, Nat.le_of_ble_eq_true rfl⟩) hh [0, 1, 4] [2, 3] [0] rfl rfl rfl rfl (by decide) rfl rfl hl rfl (Nat.le_of_ble_eq_true rfl) dL_law_3014 ⟨Nat.le_of_ble_eq_true rfl, (Nat.le_of_ble_eq_true rfl)⟩ (fun _ _ _ _ _ h => h.elim) (fun v w ty1 H locs hp hh => ?_)
  obtain ⟨rfl, rfl, rfl⟩ := hp
  have hh : kH D kStr e0 A s H [(ma, .inr (16, [.int 0, .ref m1, .ref m2, .ref m3, .ref m4, .ref m5, .ref m6, .ref m7, .ref m8, .int 0, .int 0])), (m3, .inr (4, [.int 0, .ref e0.1, .int 0])), (o1, .inl (z3, 1, .inr (.inl (fun _ => 0))))] [(z3, .long), (z3, .long)] _ := hh
  refine W.eq (g2 := F0 m 3017 ls [.int 1]) (by first | rfl | decide) ?_
  refine lv_istore (lv' := [(6, .int 1), (5, .int 0), (4, .ref o2), (3, .ref o1), (2, .ref ma), (1, .ref xa), (0, .ref b)]) hx hb dL_law_3017 hl (by decide) rfl (fun ls hl => ?_)
  refine lv_aload_n hx hb dL_law_3019 rfl (lv_at hl 4 rfl) ?_
  refine lv_aload_n hx hb dL_law_3020 rfl (lv_at hl 6 rfl) ?_
  refine lv_iload hx hb dL_law_3021 (lv_at hl 1 rfl) ?_
  refine lv_iconst (v := 1) hx hb dL_law_3023 (by decide) ?_
  refine lv_iadd hx hb dL_law_3024 ?_
  refine W.eq (g2 := F0 m 3025 ls [.int 1, .ref b, .ref ma]) (by first | rfl | decide) ?_
  refine va_sld hx hb hX hbl hbA hh.2.2.2.1 (by unfold vp_in; decide) dL_law_3025 ?_
  refine W.eq (g2 := F0 m 3026 ls [.int (xs 1), .ref ma]) rfl ?_
  refine lv_aload_n hx hb dL_law_3026 rfl (lv_at hl 6 rfl) ?_
  refine lv_iload hx hb dL_law_3027 (lv_at hl 1 rfl) ?_
  refine lv_iconst (v := 2) hx hb dL_law_3029 (by decide) ?_
  refine lv_iadd hx hb dL_law_3030 ?_
  refine W.eq (g2 := F0 m 3031 ls [.int 2, .ref b, .int (xs 1), .ref ma]) (by first | rfl | decide) ?_
  refine va_sld hx hb hX hbl hbA hh.2.2.2.1 (by unfold vp_in; decide) dL_law_3031 ?_
  refine W.eq (g2 := F0 m 3032 ls [.int (xs 2), .int (xs 1), .ref ma]) rfl ?_
  refine k_callV (C := RX11) (T := TX11) (N := 11) (ci := 16) (q0 := 0) (wr := [(o1, .inl (z3, 1, .inr (.inl (fun _ => 0))))]) (rest := []) (own := RL) ⟨hx, hb, hml, hown, hts⟩ (c_X11_play l hst D e0 ma 0 m1 m2 m3 m4 m5 m6 m7 m8 ((xs 1)) ((xs 2)) ) (cwV 2 hts gl_V_c_X11_play rfl rfl rfl (by decide +kernel) ⟨Nat.le_of_ble_eq_true rfl, Nat.le_of_ble_eq_true rfl⟩) hh rfl rfl [0, 1] [2] [] rfl rfl rfl rfl (by decide) rfl rfl hl rfl (Nat.le_of_ble_eq_true rfl) dL_law_3032 ⟨Nat.le_of_ble_eq_true rfl, (Nat.le_of_ble_eq_true rfl)⟩ (fun _ _ _ _ _ h => h.elim) (fun v w ty1 H locs hp hh => ?_)
  obtain ⟨rfl, rfl, rfl⟩ := hp
  have hh : kH D kStr e0 A s H [(o1, .inl (z3, 1, .inr (.inl (fun _ => 0)))), (ma, .inr (16, [.int 1, .ref m1, .ref m2, .ref m3, .ref m4, .ref m5, .ref m6, .ref m7, .ref m8, .int 0, .int 0]))] [(z3, .long), (z3, .long)] _ := hh
  refine W.eq (g2 := F0 m 3035 ls [.int 0]) (by first | rfl | decide) ?_
  refine lv_istore (lv' := [(7, .int 0), (6, .int 1), (5, .int 0), (4, .ref o2), (3, .ref o1), (2, .ref ma), (1, .ref xa), (0, .ref b)]) hx hb dL_law_3035 hl (by decide) rfl (fun ls hl => ?_)
  refine lv_aload_n hx hb dL_law_3037 rfl (lv_at hl 5 rfl) ?_
  refine k_callV (C := RX11) (T := TX11) (N := 11) (ci := 16) (q0 := 1) (wr := [(o1, .inl (z3, 1, .inr (.inl (fun _ => 0))))]) (rest := []) (own := RL) ⟨hx, hb, hml, hown, hts⟩ (c_X11_thrown l hst D e0 ma 1 m1 m2 m3 m4 m5 m6 m7 m8 ) (cwV 0 hts gl_V_c_X11_thrown rfl rfl rfl (by decide +kernel) ⟨Nat.le_of_ble_eq_true rfl, Nat.le_of_ble_eq_true rfl⟩) hh rfl rfl [1] [0] [] rfl rfl rfl rfl (by decide) rfl rfl hl rfl (Nat.le_of_ble_eq_true rfl) dL_law_3038 ⟨Nat.le_of_ble_eq_true rfl, (Nat.le_of_ble_eq_true rfl)⟩ (fun _ _ _ _ _ h => h.elim) (fun v w ty1 H locs hp hh => ?_)
  obtain ⟨rfl, rfl, rfl⟩ := hp
  have hh : kH D kStr e0 A s H [(o1, .inl (z3, 1, .inr (.inl (fun _ => 0)))), (ma, .inr (16, [.int 1, .ref m1, .ref m2, .ref m3, .ref m4, .ref m5, .ref m6, .ref m7, .ref m8, .int 0, .int 0]))] [(z3, .long), (z3, .long)] _ := hh
  refine W.eq (g2 := F0 m 3041 ls [.int 1]) (by first | rfl | decide) ?_
  refine lv_iload hx hb dL_law_3041 (lv_at hl 1 rfl) ?_
  refine lv_icmp_eq (tgt := 3048) hx hb dL_law_3043 (by decide) (fun _ => ?_) (fun c_3043 => absurd (by decide) c_3043)
  refine lv_iload hx hb dL_law_3048 (lv_at hl 1 rfl) ?_
  refine lv_if_ne (tgt := 3065) hx hb dL_law_3050 (by decide) (fun _ => ?_) (fun c_3050 => absurd c_3050 (by decide))
  refine lv_goto (tgt := 3429) hx hb dL_law_3065 (by decide) ?_
  refine W.widen (k := 1000) (n := 100000) (Nat.le_of_ble_eq_true rfl) (Nat.le_of_ble_eq_true rfl) ?_
  exact kk _ _ _ hh.2.2.2.1 (lv_sub hl [7, 2] rfl)
set_option maxHeartbeats 4000000 in
set_option maxRecDepth 100000 in
theorem law_44 {p : Program} {l : Launch} {e : Env} {s : State} {m : MethodId} {below : List Frame} {meth : Method} {c : Code} {Q : State → Prop} {b : Nat} {xs : Nat → Int32} {D : va_G} {e0 : kE} {A : Nat → Prop} (hst : l.stackTraces = false) (hx : p.tables.exec = Jvm.exec) (hb : c.code = cL_law) (hml : c.maxLocals = 9) (hts : ∀ w ∈ lw_tbl, w.before #[Value.ref b] s = true) (hown : s.vm.findClass RL = some m.cls) (hX : va_X b 5 xs s s.heap) (hbl : b < s.heap.size) (hbA : ¬ A b) {xa x1 x2 x3 x4 x5 g1 g2 g3 g4 h1 h2 h3 h4 h5 ma m1 m2 m3 m4 m5 m6 m7 m8 o1 o2 : Nat} {z1 z2 z3 z4 : ClassId}  {H : Heap} {locs : List Loc} {ls : Array Slot} (hh : kH D kStr e0 A s H (lwW e0 xa x1 x2 x3 x4 x5 g1 g2 g3 g4 h1 h2 h3 h4 h5 ma m1 m2 m3 m4 m5 m6 m7 m8 o1 o2 z1 z2 z3 z4) (lwT z1 z2 z3 z4) locs) (hl : lv_has ls 9 (lwL b xa ma o1 o2)) (kk : lwK p l e s m below meth c Q b A) : W p l e room_1 s m #[Value.ref b] below meth c H locs 100 10000 Q (F0 m 3135 ls []) := by
  have hh : kH D kStr e0 A s H [(xa, .inr (11, [.ref x1, .int 0, .ref x2, .int 0, .ref x3, .ref x4, .ref x5, .int 0])), (ma, .inr (16, [.int 0, .ref m1, .ref m2, .ref m3, .ref m4, .ref m5, .ref m6, .ref m7, .ref m8, .int 0, .int 0])), (m8, .inr (4, [.int 0, .ref e0.1, .int 0])), (o1, .inl (z3, 1, .inr (.inl (fun _ => 0))))] [(z3, .long)] _ := hh.sub [0, 5, 13, 14] [2] rfl rfl rfl
  have hl : lv_has ls 9 [(5, .int 0), (4, .ref o2), (3, .ref o1), (2, .ref ma), (1, .ref xa), (0, .ref b)] := hl
  refine lv_aload_n hx hb dL_law_3135 rfl (lv_at hl 4 rfl) ?_
  refine lv_aload_n hx hb dL_law_3136 rfl (lv_at hl 5 rfl) ?_
  refine lv_iload hx hb dL_law_3137 (lv_at hl 0 rfl) ?_
  refine lv_iconst (v := 1) hx hb dL_law_3139 (by decide) ?_
  refine lv_iadd hx hb dL_law_3140 ?_
  refine W.eq (g2 := F0 m 3141 ls [.int 1, .ref b, .ref xa]) (by first | rfl | decide) ?_
  refine va_sld hx hb hX hbl hbA hh.2.2.2.1 (by unfold vp_in; decide) dL_law_3141 ?_
  refine W.eq (g2 := F0 m 3142 ls [.int (xs 1), .ref xa]) rfl ?_
  refine lv_aload_n hx hb dL_law_3142 rfl (lv_at hl 5 rfl) ?_
  refine lv_iload hx hb dL_law_3143 (lv_at hl 0 rfl) ?_
  refine lv_iconst (v := 2) hx hb dL_law_3145 (by decide) ?_
  refine lv_iadd hx hb dL_law_3146 ?_
  refine W.eq (g2 := F0 m 3147 ls [.int 2, .ref b, .int (xs 1), .ref xa]) (by first | rfl | decide) ?_
  refine va_sld hx hb hX hbl hbA hh.2.2.2.1 (by unfold vp_in; decide) dL_law_3147 ?_
  refine W.eq (g2 := F0 m 3148 ls [.int (xs 2), .int (xs 1), .ref xa]) rfl ?_
  refine lv_aload_n hx hb dL_law_3148 rfl (lv_at hl 5 rfl) ?_
  refine lv_iload hx hb dL_law_3149 (lv_at hl 0 rfl) ?_
  refine lv_iconst (v := 3) hx hb dL_law_3151 (by decide) ?_
  refine lv_iadd hx hb dL_law_3152 ?_
  refine W.eq (g2 := F0 m 3153 ls [.int 3, .ref b, .int (xs 2), .int (xs 1), .ref xa]) (by first | rfl | decide) ?_
  refine va_sld hx hb hX hbl hbA hh.2.2.2.1 (by unfold vp_in; decide) dL_law_3153 ?_
  refine W.eq (g2 := F0 m 3154 ls [.int (xs 3), .int (xs 2), .int (xs 1), .ref xa]) rfl ?_
  refine lv_aload_n hx hb dL_law_3154 rfl (lv_at hl 2 rfl) ?_
  refine k_callSX (wr := [(ma, .inr (16, [.int 0, .ref m1, .ref m2, .ref m3, .ref m4, .ref m5, .ref m6, .ref m7, .ref m8, .int 0, .int 0])), (m8, .inr (4, [.int 0, .ref e0.1, .int 0]))]) (rest := []) (own := RL) ⟨hx, hb, hml, hown, hts⟩ (c_L_vote l hst D e0 xa x1 x2 x3 x4 x5 ((xs 1)) ((xs 2)) ((xs 3)) o1 z3 ((fun _ => 0)) ) (vx_cwSW 5 hts gl_S_c_L_vote rfl rfl rfl (by decide +kernel) ⟨Nat.le_of_ble_eq_true rfl, Nat.le_of_ble_eq_true rfl⟩) hh [0, 3] [1, 2] [0] rfl rfl rfl rfl (by decide) rfl rfl hl rfl (Nat.le_of_ble_eq_true rfl) dL_law_3155 ⟨Nat.le_of_ble_eq_true rfl, (Nat.le_of_ble_eq_true rfl)⟩ (fun _ _ _ _ _ h => h.elim) (fun v w ty1 H locs hp hh => ?_)
  obtain ⟨rfl, rfl, rfl⟩ := hp
  have hh : kH D kStr e0 A s H [(ma, .inr (16, [.int 0, .ref m1, .ref m2, .ref m3, .ref m4, .ref m5, .ref m6, .ref m7, .ref m8, .int 0, .int 0])), (m8, .inr (4, [.int 0, .ref e0.1, .int 0])), (o1, .inl (z3, 1, .inr (.inl (fun _ => 0))))] [(z3, .long), (z3, .long)] _ := hh
  refine W.eq (g2 := F0 m 3158 ls [.int 1]) (by first | rfl | decide) ?_
  refine lv_istore (lv' := [(6, .int 1), (5, .int 0), (4, .ref o2), (3, .ref o1), (2, .ref ma), (1, .ref xa), (0, .ref b)]) hx hb dL_law_3158 hl (by decide) rfl (fun ls hl => ?_)
  refine lv_aload_n hx hb dL_law_3160 rfl (lv_at hl 4 rfl) ?_
  refine lv_aload_n hx hb dL_law_3161 rfl (lv_at hl 6 rfl) ?_
  refine lv_iload hx hb dL_law_3162 (lv_at hl 1 rfl) ?_
  refine lv_iconst (v := 1) hx hb dL_law_3164 (by decide) ?_
  refine lv_iadd hx hb dL_law_3165 ?_
  refine W.eq (g2 := F0 m 3166 ls [.int 1, .ref b, .ref ma]) (by first | rfl | decide) ?_
  refine va_sld hx hb hX hbl hbA hh.2.2.2.1 (by unfold vp_in; decide) dL_law_3166 ?_
  refine W.eq (g2 := F0 m 3167 ls [.int (xs 1), .ref ma]) rfl ?_
  refine lv_aload_n hx hb dL_law_3167 rfl (lv_at hl 6 rfl) ?_
  refine lv_iload hx hb dL_law_3168 (lv_at hl 1 rfl) ?_
  refine lv_iconst (v := 2) hx hb dL_law_3170 (by decide) ?_
  refine lv_iadd hx hb dL_law_3171 ?_
  refine W.eq (g2 := F0 m 3172 ls [.int 2, .ref b, .int (xs 1), .ref ma]) (by first | rfl | decide) ?_
  refine va_sld hx hb hX hbl hbA hh.2.2.2.1 (by unfold vp_in; decide) dL_law_3172 ?_
  refine W.eq (g2 := F0 m 3173 ls [.int (xs 2), .int (xs 1), .ref ma]) rfl ?_
  refine lv_aload_n hx hb dL_law_3173 rfl (lv_at hl 6 rfl) ?_
  refine lv_iload hx hb dL_law_3174 (lv_at hl 1 rfl) ?_
  refine lv_iconst (v := 3) hx hb dL_law_3176 (by decide) ?_
  refine lv_iadd hx hb dL_law_3177 ?_
  refine W.eq (g2 := F0 m 3178 ls [.int 3, .ref b, .int (xs 2), .int (xs 1), .ref ma]) (by first | rfl | decide) ?_
  refine va_sld hx hb hX hbl hbA hh.2.2.2.1 (by unfold vp_in; decide) dL_law_3178 ?_
  refine W.eq (g2 := F0 m 3179 ls [.int (xs 3), .int (xs 2), .int (xs 1), .ref ma]) rfl ?_
  refine k_callV (C := RX11) (T := TX11) (N := 11) (ci := 16) (q0 := 0) (wr := [(o1, .inl (z3, 1, .inr (.inl (fun _ => 0))))]) (rest := []) (own := RL) ⟨hx, hb, hml, hown, hts⟩ (c_X11_vote l hst D e0 ma 0 m1 m2 m3 m4 m5 m6 m7 m8 ((xs 1)) ((xs 2)) ((xs 3)) ) (cwV 3 hts gl_V_c_X11_vote rfl rfl rfl (by decide +kernel) ⟨Nat.le_of_ble_eq_true rfl, Nat.le_of_ble_eq_true rfl⟩) hh rfl rfl [0, 1] [2] [] rfl rfl rfl rfl (by decide) rfl rfl hl rfl (Nat.le_of_ble_eq_true rfl) dL_law_3179 ⟨Nat.le_of_ble_eq_true rfl, (Nat.le_of_ble_eq_true rfl)⟩ (fun _ _ _ _ _ h => h.elim) (fun v w ty1 H locs hp hh => ?_)
  obtain ⟨rfl, rfl, rfl⟩ := hp
  have hh : kH D kStr e0 A s H [(o1, .inl (z3, 1, .inr (.inl (fun _ => 0)))), (ma, .inr (16, [.int 1, .ref m1, .ref m2, .ref m3, .ref m4, .ref m5, .ref m6, .ref m7, .ref m8, .int 0, .int 0]))] [(z3, .long), (z3, .long)] _ := hh
  refine W.eq (g2 := F0 m 3182 ls [.int 0]) (by first | rfl | decide) ?_
  refine lv_istore (lv' := [(7, .int 0), (6, .int 1), (5, .int 0), (4, .ref o2), (3, .ref o1), (2, .ref ma), (1, .ref xa), (0, .ref b)]) hx hb dL_law_3182 hl (by decide) rfl (fun ls hl => ?_)
  refine lv_aload_n hx hb dL_law_3184 rfl (lv_at hl 5 rfl) ?_
  refine k_callV (C := RX11) (T := TX11) (N := 11) (ci := 16) (q0 := 1) (wr := [(o1, .inl (z3, 1, .inr (.inl (fun _ => 0))))]) (rest := []) (own := RL) ⟨hx, hb, hml, hown, hts⟩ (c_X11_thrown l hst D e0 ma 1 m1 m2 m3 m4 m5 m6 m7 m8 ) (cwV 0 hts gl_V_c_X11_thrown rfl rfl rfl (by decide +kernel) ⟨Nat.le_of_ble_eq_true rfl, Nat.le_of_ble_eq_true rfl⟩) hh rfl rfl [1] [0] [] rfl rfl rfl rfl (by decide) rfl rfl hl rfl (Nat.le_of_ble_eq_true rfl) dL_law_3185 ⟨Nat.le_of_ble_eq_true rfl, (Nat.le_of_ble_eq_true rfl)⟩ (fun _ _ _ _ _ h => h.elim) (fun v w ty1 H locs hp hh => ?_)
  obtain ⟨rfl, rfl, rfl⟩ := hp
  have hh : kH D kStr e0 A s H [(o1, .inl (z3, 1, .inr (.inl (fun _ => 0)))), (ma, .inr (16, [.int 1, .ref m1, .ref m2, .ref m3, .ref m4, .ref m5, .ref m6, .ref m7, .ref m8, .int 0, .int 0]))] [(z3, .long), (z3, .long)] _ := hh
  refine W.eq (g2 := F0 m 3188 ls [.int 1]) (by first | rfl | decide) ?_
  refine lv_iload hx hb dL_law_3188 (lv_at hl 1 rfl) ?_
  refine lv_icmp_eq (tgt := 3195) hx hb dL_law_3190 (by decide) (fun _ => ?_) (fun c_3190 => absurd (by decide) c_3190)
  refine lv_iload hx hb dL_law_3195 (lv_at hl 1 rfl) ?_
  refine lv_if_ne (tgt := 3212) hx hb dL_law_3197 (by decide) (fun _ => ?_) (fun c_3197 => absurd c_3197 (by decide))
  refine lv_goto (tgt := 3429) hx hb dL_law_3212 (by decide) ?_
  refine W.widen (k := 1000) (n := 100000) (Nat.le_of_ble_eq_true rfl) (Nat.le_of_ble_eq_true rfl) ?_
  exact kk _ _ _ hh.2.2.2.1 (lv_sub hl [7, 2] rfl)
set_option maxHeartbeats 4000000 in
set_option maxRecDepth 100000 in
theorem law_45 {p : Program} {l : Launch} {e : Env} {s : State} {m : MethodId} {below : List Frame} {meth : Method} {c : Code} {Q : State → Prop} {b : Nat} {xs : Nat → Int32} {D : va_G} {e0 : kE} {A : Nat → Prop} (hst : l.stackTraces = false) (hx : p.tables.exec = Jvm.exec) (hb : c.code = cL_law) (hml : c.maxLocals = 9) (hts : ∀ w ∈ lw_tbl, w.before #[Value.ref b] s = true) (hown : s.vm.findClass RL = some m.cls) (hX : va_X b 5 xs s s.heap) (hbl : b < s.heap.size) (hbA : ¬ A b) {xa x1 x2 x3 x4 x5 g1 g2 g3 g4 h1 h2 h3 h4 h5 ma m1 m2 m3 m4 m5 m6 m7 m8 o1 o2 : Nat} {z1 z2 z3 z4 : ClassId}  {H : Heap} {locs : List Loc} {ls : Array Slot} (hh : kH D kStr e0 A s H (lwW e0 xa x1 x2 x3 x4 x5 g1 g2 g3 g4 h1 h2 h3 h4 h5 ma m1 m2 m3 m4 m5 m6 m7 m8 o1 o2 z1 z2 z3 z4) (lwT z1 z2 z3 z4) locs) (hl : lv_has ls 9 (lwL b xa ma o1 o2)) (kk : lwK p l e s m below meth c Q b A) : W p l e room_1 s m #[Value.ref b] below meth c H locs 100 10000 Q (F0 m 3215 ls []) := by
  have hh : kH D kStr e0 A s H [(xa, .inr (11, [.ref x1, .int 0, .ref x2, .int 0, .ref x3, .ref x4, .ref x5, .int 0])), (ma, .inr (16, [.int 0, .ref m1, .ref m2, .ref m3, .ref m4, .ref m5, .ref m6, .ref m7, .ref m8, .int 0, .int 0])), (m8, .inr (4, [.int 0, .ref e0.1, .int 0])), (o1, .inl (z3, 1, .inr (.inl (fun _ => 0))))] [(z3, .long)] _ := hh.sub [0, 5, 13, 14] [2] rfl rfl rfl
  have hl : lv_has ls 9 [(5, .int 0), (4, .ref o2), (3, .ref o1), (2, .ref ma), (1, .ref xa), (0, .ref b)] := hl
  refine lv_aload_n hx hb dL_law_3215 rfl (lv_at hl 4 rfl) ?_
  refine lv_aload_n hx hb dL_law_3216 rfl (lv_at hl 2 rfl) ?_
  refine k_callSX (wr := [(ma, .inr (16, [.int 0, .ref m1, .ref m2, .ref m3, .ref m4, .ref m5, .ref m6, .ref m7, .ref m8, .int 0, .int 0])), (m8, .inr (4, [.int 0, .ref e0.1, .int 0]))]) (rest := []) (own := RL) ⟨hx, hb, hml, hown, hts⟩ (c_L_favourite l hst D e0 xa x1 x2 x3 x4 x5 o1 z3 ((fun _ => 0)) ) (vx_cwSW 2 hts gl_S_c_L_favourite rfl rfl rfl (by decide +kernel) ⟨Nat.le_of_ble_eq_true rfl, Nat.le_of_ble_eq_true rfl⟩) hh [0, 3] [1, 2] [0] rfl rfl rfl rfl (by decide) rfl rfl hl rfl (Nat.le_of_ble_eq_true rfl) dL_law_3217 ⟨Nat.le_of_ble_eq_true rfl, (Nat.le_of_ble_eq_true rfl)⟩ (fun _ _ _ _ _ h => h.elim) (fun v w ty1 H locs hp hh => ?_)
  obtain ⟨rfl, rfl, rfl⟩ := hp
  have hh : kH D kStr e0 A s H [(ma, .inr (16, [.int 0, .ref m1, .ref m2, .ref m3, .ref m4, .ref m5, .ref m6, .ref m7, .ref m8, .int 0, .int 0])), (m8, .inr (4, [.int 0, .ref e0.1, .int 0])), (o1, .inl (z3, 1, .inr (.inl (fun _ => 0))))] [(z3, .long), (z3, .long)] _ := hh
  refine W.eq (g2 := F0 m 3220 ls [.int 1]) (by first | rfl | decide) ?_
  refine lv_istore (lv' := [(6, .int 1), (5, .int 0), (4, .ref o2), (3, .ref o1), (2, .ref ma), (1, .ref xa), (0, .ref b)]) hx hb dL_law_3220 hl (by decide) rfl (fun ls hl => ?_)
  refine lv_aload_n hx hb dL_law_3222 rfl (lv_at hl 4 rfl) ?_
  refine k_callV (C := RX11) (T := TX11) (N := 11) (ci := 16) (q0 := 0) (wr := [(o1, .inl (z3, 1, .inr (.inl (fun _ => 0))))]) (rest := []) (own := RL) ⟨hx, hb, hml, hown, hts⟩ (c_X11_favourite l hst D e0 ma 0 m1 m2 m3 m4 m5 m6 m7 m8 ) (cwV 0 hts gl_V_c_X11_favourite rfl rfl rfl (by decide +kernel) ⟨Nat.le_of_ble_eq_true rfl, Nat.le_of_ble_eq_true rfl⟩) hh rfl rfl [0, 1] [2] [] rfl rfl rfl rfl (by decide) rfl rfl hl rfl (Nat.le_of_ble_eq_true rfl) dL_law_3223 ⟨Nat.le_of_ble_eq_true rfl, (Nat.le_of_ble_eq_true rfl)⟩ (fun _ _ _ _ _ h => h.elim) (fun v w ty1 H locs hp hh => ?_)
  obtain ⟨rfl, rfl, rfl⟩ := hp
  have hh : kH D kStr e0 A s H [(o1, .inl (z3, 1, .inr (.inl (fun _ => 0)))), (ma, .inr (16, [.int 1, .ref m1, .ref m2, .ref m3, .ref m4, .ref m5, .ref m6, .ref m7, .ref m8, .int 0, .int 0]))] [(z3, .long), (z3, .long)] _ := hh
  refine W.eq (g2 := F0 m 3226 ls [.int 0]) (by first | rfl | decide) ?_
  refine lv_istore (lv' := [(7, .int 0), (6, .int 1), (5, .int 0), (4, .ref o2), (3, .ref o1), (2, .ref ma), (1, .ref xa), (0, .ref b)]) hx hb dL_law_3226 hl (by decide) rfl (fun ls hl => ?_)
  refine lv_aload_n hx hb dL_law_3228 rfl (lv_at hl 5 rfl) ?_
  refine k_callV (C := RX11) (T := TX11) (N := 11) (ci := 16) (q0 := 1) (wr := [(o1, .inl (z3, 1, .inr (.inl (fun _ => 0))))]) (rest := []) (own := RL) ⟨hx, hb, hml, hown, hts⟩ (c_X11_thrown l hst D e0 ma 1 m1 m2 m3 m4 m5 m6 m7 m8 ) (cwV 0 hts gl_V_c_X11_thrown rfl rfl rfl (by decide +kernel) ⟨Nat.le_of_ble_eq_true rfl, Nat.le_of_ble_eq_true rfl⟩) hh rfl rfl [1] [0] [] rfl rfl rfl rfl (by decide) rfl rfl hl rfl (Nat.le_of_ble_eq_true rfl) dL_law_3229 ⟨Nat.le_of_ble_eq_true rfl, (Nat.le_of_ble_eq_true rfl)⟩ (fun _ _ _ _ _ h => h.elim) (fun v w ty1 H locs hp hh => ?_)
  obtain ⟨rfl, rfl, rfl⟩ := hp
  have hh : kH D kStr e0 A s H [(o1, .inl (z3, 1, .inr (.inl (fun _ => 0)))), (ma, .inr (16, [.int 1, .ref m1, .ref m2, .ref m3, .ref m4, .ref m5, .ref m6, .ref m7, .ref m8, .int 0, .int 0]))] [(z3, .long), (z3, .long)] _ := hh
  refine W.eq (g2 := F0 m 3232 ls [.int 1]) (by first | rfl | decide) ?_
  refine lv_iload hx hb dL_law_3232 (lv_at hl 1 rfl) ?_
  refine lv_icmp_eq (tgt := 3239) hx hb dL_law_3234 (by decide) (fun _ => ?_) (fun c_3234 => absurd (by decide) c_3234)
  refine lv_iload hx hb dL_law_3239 (lv_at hl 1 rfl) ?_
  refine lv_if_ne (tgt := 3256) hx hb dL_law_3241 (by decide) (fun _ => ?_) (fun c_3241 => absurd c_3241 (by decide))
  refine lv_goto (tgt := 3429) hx hb dL_law_3256 (by decide) ?_
  refine W.widen (k := 1000) (n := 100000) (Nat.le_of_ble_eq_true rfl) (Nat.le_of_ble_eq_true rfl) ?_
  exact kk _ _ _ hh.2.2.2.1 (lv_sub hl [7, 2] rfl)
set_option maxHeartbeats 4000000 in
set_option maxRecDepth 100000 in
theorem law_46 {p : Program} {l : Launch} {e : Env} {s : State} {m : MethodId} {below : List Frame} {meth : Method} {c : Code} {Q : State → Prop} {b : Nat} {xs : Nat → Int32} {D : va_G} {e0 : kE} {A : Nat → Prop} (hst : l.stackTraces = false) (hx : p.tables.exec = Jvm.exec) (hb : c.code = cL_law) (hml : c.maxLocals = 9) (hts : ∀ w ∈ lw_tbl, w.before #[Value.ref b] s = true) (hown : s.vm.findClass RL = some m.cls) (hX : va_X b 5 xs s s.heap) (hbl : b < s.heap.size) (hbA : ¬ A b) {xa x1 x2 x3 x4 x5 g1 g2 g3 g4 h1 h2 h3 h4 h5 ma m1 m2 m3 m4 m5 m6 m7 m8 o1 o2 : Nat} {z1 z2 z3 z4 : ClassId}  {H : Heap} {locs : List Loc} {ls : Array Slot} (hh : kH D kStr e0 A s H (lwW e0 xa x1 x2 x3 x4 x5 g1 g2 g3 g4 h1 h2 h3 h4 h5 ma m1 m2 m3 m4 m5 m6 m7 m8 o1 o2 z1 z2 z3 z4) (lwT z1 z2 z3 z4) locs) (hl : lv_has ls 9 (lwL b xa ma o1 o2)) (kk : lwK p l e s m below meth c Q b A) : W p l e room_1 s m #[Value.ref b] below meth c H locs 100 10000 Q (F0 m 3259 ls []) := by
  have hh : kH D kStr e0 A s H [(xa, .inr (11, [.ref x1, .int 0, .ref x2, .int 0, .ref x3, .ref x4, .ref x5, .int 0])), (x4, .inr (8, [.ref h1, .ref h2, .int 0, .ref h3, .int 0, .ref h4, .int 0, .ref h5, .int 0, .int 0, .int 0])), (ma, .inr (16, [.int 0, .ref m1, .ref m2, .ref m3, .ref m4, .ref m5, .ref m6, .ref m7, .ref m8, .int 0, .int 0])), (o2, .inl (z4, 1, .inr (.inr (.inr (.inl (fun _ => 0))))))] [(z4, .double)] _ := hh.sub [0, 2, 5, 15] [3] rfl rfl rfl
  have hl : lv_has ls 9 [(5, .int 0), (4, .ref o2), (3, .ref o1), (2, .ref ma), (1, .ref xa), (0, .ref b)] := hl
  refine lv_aload_n hx hb dL_law_3259 rfl (lv_at hl 4 rfl) ?_
  refine lv_aload hx hb dL_law_3260 (lv_at hl 1 rfl) ?_
  refine k_callSX (wr := [(ma, .inr (16, [.int 0, .ref m1, .ref m2, .ref m3, .ref m4, .ref m5, .ref m6, .ref m7, .ref m8, .int 0, .int 0]))]) (rest := []) (own := RL) ⟨hx, hb, hml, hown, hts⟩ (c_L_goodShare l hst D e0 xa x1 x2 x3 x4 x5 h1 h2 h3 h4 h5 o2 z4 ((fun _ => 0)) ) (vx_cwSW 2 hts gl_S_c_L_goodShare rfl rfl rfl (by decide +kernel) ⟨Nat.le_of_ble_eq_true rfl, Nat.le_of_ble_eq_true rfl⟩) hh [0, 1, 3] [2] [0] rfl rfl rfl rfl (by decide) rfl rfl hl rfl (Nat.le_of_ble_eq_true rfl) dL_law_3262 ⟨Nat.le_of_ble_eq_true rfl, (Nat.le_of_ble_eq_true rfl)⟩ (fun _ _ _ _ _ h => h.elim) (fun v w ty1 H locs hp hh => ?_)
  obtain ⟨rfl, rfl, rfl⟩ := hp
  have hh : kH D kStr e0 A s H [(ma, .inr (16, [.int 0, .ref m1, .ref m2, .ref m3, .ref m4, .ref m5, .ref m6, .ref m7, .ref m8, .int 0, .int 0])), (o2, .inl (z4, 1, .inr (.inr (.inr (.inl (fun _ => 0))))))] [(z4, .double), (z4, .double)] _ := hh
  refine W.eq (g2 := F0 m 3265 ls [.int 1]) (by first | rfl | decide) ?_
  refine lv_istore (lv' := [(6, .int 1), (5, .int 0), (4, .ref o2), (3, .ref o1), (2, .ref ma), (1, .ref xa), (0, .ref b)]) hx hb dL_law_3265 hl (by decide) rfl (fun ls hl => ?_)
  refine lv_aload_n hx hb dL_law_3267 rfl (lv_at hl 4 rfl) ?_
  refine k_callV (C := RX11) (T := TX11) (N := 11) (ci := 16) (q0 := 0) (wr := [(o2, .inl (z4, 1, .inr (.inr (.inr (.inl (fun _ => 0))))))]) (rest := []) (own := RL) ⟨hx, hb, hml, hown, hts⟩ (c_X11_goodShare l hst D e0 ma 0 m1 m2 m3 m4 m5 m6 m7 m8 ) (cwV 0 hts gl_V_c_X11_goodShare rfl rfl rfl (by decide +kernel) ⟨Nat.le_of_ble_eq_true rfl, Nat.le_of_ble_eq_true rfl⟩) hh rfl rfl [0] [1] [] rfl rfl rfl rfl (by decide) rfl rfl hl rfl (Nat.le_of_ble_eq_true rfl) dL_law_3268 ⟨Nat.le_of_ble_eq_true rfl, (Nat.le_of_ble_eq_true rfl)⟩ (fun _ _ _ _ _ h => h.elim) (fun v w ty1 H locs hp hh => ?_)
  obtain ⟨rfl, rfl, rfl⟩ := hp
  have hh : kH D kStr e0 A s H [(o2, .inl (z4, 1, .inr (.inr (.inr (.inl (fun _ => 0)))))), (ma, .inr (16, [.int 1, .ref m1, .ref m2, .ref m3, .ref m4, .ref m5, .ref m6, .ref m7, .ref m8, .int 0, .int 0]))] [(z4, .double), (z4, .double)] _ := hh
  refine W.eq (g2 := F0 m 3271 ls [.float 0]) (by first | rfl | decide) ?_
  refine lv_fstore (lv' := [(7, .float 0), (6, .int 1), (5, .int 0), (4, .ref o2), (3, .ref o1), (2, .ref ma), (1, .ref xa), (0, .ref b)]) hx hb dL_law_3271 hl (by decide) rfl (fun ls hl => ?_)
  refine lv_aload_n hx hb dL_law_3273 rfl (lv_at hl 5 rfl) ?_
  refine k_callV (C := RX11) (T := TX11) (N := 11) (ci := 16) (q0 := 1) (wr := [(o2, .inl (z4, 1, .inr (.inr (.inr (.inl (fun _ => 0))))))]) (rest := []) (own := RL) ⟨hx, hb, hml, hown, hts⟩ (c_X11_thrown l hst D e0 ma 1 m1 m2 m3 m4 m5 m6 m7 m8 ) (cwV 0 hts gl_V_c_X11_thrown rfl rfl rfl (by decide +kernel) ⟨Nat.le_of_ble_eq_true rfl, Nat.le_of_ble_eq_true rfl⟩) hh rfl rfl [1] [0] [] rfl rfl rfl rfl (by decide) rfl rfl hl rfl (Nat.le_of_ble_eq_true rfl) dL_law_3274 ⟨Nat.le_of_ble_eq_true rfl, (Nat.le_of_ble_eq_true rfl)⟩ (fun _ _ _ _ _ h => h.elim) (fun v w ty1 H locs hp hh => ?_)
  obtain ⟨rfl, rfl, rfl⟩ := hp
  have hh : kH D kStr e0 A s H [(o2, .inl (z4, 1, .inr (.inr (.inr (.inl (fun _ => 0)))))), (ma, .inr (16, [.int 1, .ref m1, .ref m2, .ref m3, .ref m4, .ref m5, .ref m6, .ref m7, .ref m8, .int 0, .int 0]))] [(z4, .double), (z4, .double)] _ := hh
  refine W.eq (g2 := F0 m 3277 ls [.int 1]) (by first | rfl | decide) ?_
  refine lv_iload hx hb dL_law_3277 (lv_at hl 1 rfl) ?_
  refine lv_icmp_eq (tgt := 3284) hx hb dL_law_3279 (by decide) (fun _ => ?_) (fun c_3279 => absurd (by decide) c_3279)
  refine lv_iload hx hb dL_law_3284 (lv_at hl 1 rfl) ?_
  refine lv_if_ne (tgt := 3322) hx hb dL_law_3286 (by decide) (fun _ => ?_) (fun c_3286 => absurd c_3286 (by decide))
  refine lv_goto (tgt := 3429) hx hb dL_law_3322 (by decide) ?_
  refine W.widen (k := 1000) (n := 100000) (Nat.le_of_ble_eq_true rfl) (Nat.le_of_ble_eq_true rfl) ?_
  exact kk _ _ _ hh.2.2.2.1 (lv_sub hl [7, 2] rfl)
set_option maxHeartbeats 4000000 in
set_option maxRecDepth 100000 in
theorem law_47 {p : Program} {l : Launch} {e : Env} {s : State} {m : MethodId} {below : List Frame} {meth : Method} {c : Code} {Q : State → Prop} {b : Nat} {xs : Nat → Int32} {D : va_G} {e0 : kE} {A : Nat → Prop} (hst : l.stackTraces = false) (hx : p.tables.exec = Jvm.exec) (hb : c.code = cL_law) (hml : c.maxLocals = 9) (hts : ∀ w ∈ lw_tbl, w.before #[Value.ref b] s = true) (hown : s.vm.findClass RL = some m.cls) (hX : va_X b 5 xs s s.heap) (hbl : b < s.heap.size) (hbA : ¬ A b) {xa x1 x2 x3 x4 x5 g1 g2 g3 g4 h1 h2 h3 h4 h5 ma m1 m2 m3 m4 m5 m6 m7 m8 o1 o2 : Nat} {z1 z2 z3 z4 : ClassId}  {H : Heap} {locs : List Loc} {ls : Array Slot} (hh : kH D kStr e0 A s H (lwW e0 xa x1 x2 x3 x4 x5 g1 g2 g3 g4 h1 h2 h3 h4 h5 ma m1 m2 m3 m4 m5 m6 m7 m8 o1 o2 z1 z2 z3 z4) (lwT z1 z2 z3 z4) locs) (hl : lv_has ls 9 (lwL b xa ma o1 o2)) (kk : lwK p l e s m below meth c Q b A) : W p l e room_1 s m #[Value.ref b] below meth c H locs 100 10000 Q (F0 m 3325 ls []) := by
  have hh : kH D kStr e0 A s H [(xa, .inr (11, [.ref x1, .int 0, .ref x2, .int 0, .ref x3, .ref x4, .ref x5, .int 0])), (ma, .inr (16, [.int 0, .ref m1, .ref m2, .ref m3, .ref m4, .ref m5, .ref m6, .ref m7, .ref m8, .int 0, .int 0])), (m8, .inr (4, [.int 0, .ref e0.1, .int 0])), (o2, .inl (z4, 1, .inr (.inr (.inr (.inl (fun _ => 0))))))] [(z4, .double)] _ := hh.sub [0, 5, 13, 15] [3] rfl rfl rfl
  have hl : lv_has ls 9 [(5, .int 0), (4, .ref o2), (3, .ref o1), (2, .ref ma), (1, .ref xa), (0, .ref b)] := hl
  refine lv_aload_n hx hb dL_law_3325 rfl (lv_at hl 4 rfl) ?_
  refine lv_aload_n hx hb dL_law_3326 rfl (lv_at hl 5 rfl) ?_
  refine lv_iload hx hb dL_law_3327 (lv_at hl 0 rfl) ?_
  refine lv_iconst (v := 1) hx hb dL_law_3329 (by decide) ?_
  refine lv_iadd hx hb dL_law_3330 ?_
  refine W.eq (g2 := F0 m 3331 ls [.int 1, .ref b, .ref xa]) (by first | rfl | decide) ?_
  refine va_sld hx hb hX hbl hbA hh.2.2.2.1 (by unfold vp_in; decide) dL_law_3331 ?_
  refine W.eq (g2 := F0 m 3332 ls [.int (xs 1), .ref xa]) rfl ?_
  refine lv_aload hx hb dL_law_3332 (lv_at hl 1 rfl) ?_
  refine k_callSX (wr := [(ma, .inr (16, [.int 0, .ref m1, .ref m2, .ref m3, .ref m4, .ref m5, .ref m6, .ref m7, .ref m8, .int 0, .int 0])), (m8, .inr (4, [.int 0, .ref e0.1, .int 0]))]) (rest := []) (own := RL) ⟨hx, hb, hml, hown, hts⟩ (c_L_meanMark l hst D e0 xa x1 x2 x3 x4 x5 ((xs 1)) o2 z4 ((fun _ => 0)) ) (vx_cwSW 3 hts gl_S_c_L_meanMark rfl rfl rfl (by decide +kernel) ⟨Nat.le_of_ble_eq_true rfl, Nat.le_of_ble_eq_true rfl⟩) hh [0, 3] [1, 2] [0] rfl rfl rfl rfl (by decide) rfl rfl hl rfl (Nat.le_of_ble_eq_true rfl) dL_law_3334 ⟨Nat.le_of_ble_eq_true rfl, (Nat.le_of_ble_eq_true rfl)⟩ (fun _ _ _ _ _ h => h.elim) (fun v w ty1 H locs hp hh => ?_)
  obtain ⟨rfl, rfl, rfl⟩ := hp
  have hh : kH D kStr e0 A s H [(ma, .inr (16, [.int 0, .ref m1, .ref m2, .ref m3, .ref m4, .ref m5, .ref m6, .ref m7, .ref m8, .int 0, .int 0])), (m8, .inr (4, [.int 0, .ref e0.1, .int 0])), (o2, .inl (z4, 1, .inr (.inr (.inr (.inl (fun _ => 0))))))] [(z4, .double), (z4, .double)] _ := hh
  refine W.eq (g2 := F0 m 3337 ls [.int 1]) (by first | rfl | decide) ?_
  refine lv_istore (lv' := [(6, .int 1), (5, .int 0), (4, .ref o2), (3, .ref o1), (2, .ref ma), (1, .ref xa), (0, .ref b)]) hx hb dL_law_3337 hl (by decide) rfl (fun ls hl => ?_)
  refine lv_aload_n hx hb dL_law_3339 rfl (lv_at hl 4 rfl) ?_
  refine lv_aload_n hx hb dL_law_3340 rfl (lv_at hl 6 rfl) ?_
  refine lv_iload hx hb dL_law_3341 (lv_at hl 1 rfl) ?_
  refine lv_iconst (v := 1) hx hb dL_law_3343 (by decide) ?_
  refine lv_iadd hx hb dL_law_3344 ?_
  refine W.eq (g2 := F0 m 3345 ls [.int 1, .ref b, .ref ma]) (by first | rfl | decide) ?_
  refine va_sld hx hb hX hbl hbA hh.2.2.2.1 (by unfold vp_in; decide) dL_law_3345 ?_
  refine W.eq (g2 := F0 m 3346 ls [.int (xs 1), .ref ma]) rfl ?_
  refine k_callV (C := RX11) (T := TX11) (N := 11) (ci := 16) (q0 := 0) (wr := [(o2, .inl (z4, 1, .inr (.inr (.inr (.inl (fun _ => 0))))))]) (rest := []) (own := RL) ⟨hx, hb, hml, hown, hts⟩ (c_X11_meanMark l hst D e0 ma 0 m1 m2 m3 m4 m5 m6 m7 m8 ((xs 1)) ) (cwV 1 hts gl_V_c_X11_meanMark rfl rfl rfl (by decide +kernel) ⟨Nat.le_of_ble_eq_true rfl, Nat.le_of_ble_eq_true rfl⟩) hh rfl rfl [0, 1] [2] [] rfl rfl rfl rfl (by decide) rfl rfl hl rfl (Nat.le_of_ble_eq_true rfl) dL_law_3346 ⟨Nat.le_of_ble_eq_true rfl, (Nat.le_of_ble_eq_true rfl)⟩ (fun _ _ _ _ _ h => h.elim) (fun v w ty1 H locs hp hh => ?_)
  obtain ⟨rfl, rfl, rfl⟩ := hp
  have hh : kH D kStr e0 A s H [(o2, .inl (z4, 1, .inr (.inr (.inr (.inl (fun _ => 0)))))), (ma, .inr (16, [.int 1, .ref m1, .ref m2, .ref m3, .ref m4, .ref m5, .ref m6, .ref m7, .ref m8, .int 0, .int 0]))] [(z4, .double), (z4, .double)] _ := hh
  refine W.eq (g2 := F0 m 3349 ls [.double 0]) (by first | rfl | decide) ?_
  refine lv_dstore (lv' := [(7, .double 0), (6, .int 1), (5, .int 0), (4, .ref o2), (3, .ref o1), (2, .ref ma), (1, .ref xa), (0, .ref b)]) hx hb dL_law_3349 hl (by decide) rfl (fun ls hl => ?_)
  refine lv_aload_n hx hb dL_law_3351 rfl (lv_at hl 5 rfl) ?_
  refine k_callV (C := RX11) (T := TX11) (N := 11) (ci := 16) (q0 := 1) (wr := [(o2, .inl (z4, 1, .inr (.inr (.inr (.inl (fun _ => 0))))))]) (rest := []) (own := RL) ⟨hx, hb, hml, hown, hts⟩ (c_X11_thrown l hst D e0 ma 1 m1 m2 m3 m4 m5 m6 m7 m8 ) (cwV 0 hts gl_V_c_X11_thrown rfl rfl rfl (by decide +kernel) ⟨Nat.le_of_ble_eq_true rfl, Nat.le_of_ble_eq_true rfl⟩) hh rfl rfl [1] [0] [] rfl rfl rfl rfl (by decide) rfl rfl hl rfl (Nat.le_of_ble_eq_true rfl) dL_law_3352 ⟨Nat.le_of_ble_eq_true rfl, (Nat.le_of_ble_eq_true rfl)⟩ (fun _ _ _ _ _ h => h.elim) (fun v w ty1 H locs hp hh => ?_)
  obtain ⟨rfl, rfl, rfl⟩ := hp
  have hh : kH D kStr e0 A s H [(o2, .inl (z4, 1, .inr (.inr (.inr (.inl (fun _ => 0)))))), (ma, .inr (16, [.int 1, .ref m1, .ref m2, .ref m3, .ref m4, .ref m5, .ref m6, .ref m7, .ref m8, .int 0, .int 0]))] [(z4, .double), (z4, .double)] _ := hh
  refine W.eq (g2 := F0 m 3355 ls [.int 1]) (by first | rfl | decide) ?_
  refine lv_iload hx hb dL_law_3355 (lv_at hl 1 rfl) ?_
  refine lv_icmp_eq (tgt := 3362) hx hb dL_law_3357 (by decide) (fun _ => ?_) (fun c_3357 => absurd (by decide) c_3357)
  refine lv_iload hx hb dL_law_3362 (lv_at hl 1 rfl) ?_
  refine lv_if_ne (tgt := 3399) hx hb dL_law_3364 (by decide) (fun _ => ?_) (fun c_3364 => absurd c_3364 (by decide))
  refine lv_goto (tgt := 3429) hx hb dL_law_3399 (by decide) ?_
  refine W.widen (k := 1000) (n := 100000) (Nat.le_of_ble_eq_true rfl) (Nat.le_of_ble_eq_true rfl) ?_
  exact kk _ _ _ hh.2.2.2.1 (lv_sub hl [7, 2] rfl)
set_option maxHeartbeats 4000000 in
set_option maxRecDepth 100000 in
theorem law_18 {p : Program} {l : Launch} {e : Env} {s : State} {m : MethodId} {below : List Frame} {meth : Method} {c : Code} {Q : State → Prop} {b : Nat} {xs : Nat → Int32} {D : va_G} {e0 : kE} {A : Nat → Prop} (hst : l.stackTraces = false) (hx : p.tables.exec = Jvm.exec) (hb : c.code = cL_law) (hml : c.maxLocals = 9) (hts : ∀ w ∈ lw_tbl, w.before #[Value.ref b] s = true) (hown : s.vm.findClass RL = some m.cls) (hX : va_X b 5 xs s s.heap) (hbl : b < s.heap.size) (hbA : ¬ A b) {xa x1 x2 x3 x4 x5 g1 g2 g3 g4 h1 h2 h3 h4 h5 ma m1 m2 m3 m4 m5 m6 m7 m8 o1 o2 : Nat} {z1 z2 z3 z4 : ClassId}  {H : Heap} {locs : List Loc} {ls : Array Slot} (hh : kH D kStr e0 A s H (lwW e0 xa x1 x2 x3 x4 x5 g1 g2 g3 g4 h1 h2 h3 h4 h5 ma m1 m2 m3 m4 m5 m6 m7 m8 o1 o2 z1 z2 z3 z4) (lwT z1 z2 z3 z4) locs) (hl : lv_has ls 9 (lwL b xa ma o1 o2)) (kk : lwK p l e s m below meth c Q b A) : W p l e room_1 s m #[Value.ref b] below meth c H locs 100 10000 Q (F0 m 1460 ls []) := by
  have hh : kH D kStr e0 A s H [(xa, .inr (11, [.ref x1, .int 0, .ref x2, .int 0, .ref x3, .ref x4, .ref x5, .int 0])), (x3, .inr (9, [.ref g1, .int 0, .ref g2, .int 0, .ref g3, .ref g4])), (ma, .inr (16, [.int 0, .ref m1, .ref m2, .ref m3, .ref m4, .ref m5, .ref m6, .ref m7, .ref m8, .int 0, .int 0])), (m3, .inr (4, [.int 0, .ref e0.1, .int 0])), (o1, .inl (z3, 1, .inr (.inl (fun _ => 0))))] [(z3, .long)] _ := hh.sub [0, 1, 5, 8, 14] [2] rfl rfl rfl
  have hl : lv_has ls 9 [(5, .int 0), (4, .ref o2), (3, .ref o1), (2, .ref ma), (1, .ref xa), (0, .ref b)] := hl
  refine lv_aload_n hx hb dL_law_1460 rfl (lv_at hl 4 rfl) ?_
  refine lv_aload_n hx hb dL_law_1461 rfl (lv_at hl 5 rfl) ?_
  refine lv_iload hx hb dL_law_1462 (lv_at hl 0 rfl) ?_
  refine lv_iconst (v := 1) hx hb dL_law_1464 (by decide) ?_
  refine lv_iadd hx hb dL_law_1465 ?_
  refine W.eq (g2 := F0 m 1466 ls [.int 1, .ref b, .ref xa]) (by first | rfl | decide) ?_
  refine va_sld hx hb hX hbl hbA hh.2.2.2.1 (by unfold vp_in; decide) dL_law_1466 ?_
  refine W.eq (g2 := F0 m 1467 ls [.int (xs 1), .ref xa]) rfl ?_
  refine lv_aload_n hx hb dL_law_1467 rfl (lv_at hl 5 rfl) ?_
  refine lv_iload hx hb dL_law_1468 (lv_at hl 0 rfl) ?_
  refine lv_iconst (v := 2) hx hb dL_law_1470 (by decide) ?_
  refine lv_iadd hx hb dL_law_1471 ?_
  refine W.eq (g2 := F0 m 1472 ls [.int 2, .ref b, .int (xs 1), .ref xa]) (by first | rfl | decide) ?_
  refine va_sld hx hb hX hbl hbA hh.2.2.2.1 (by unfold vp_in; decide) dL_law_1472 ?_
  refine W.eq (g2 := F0 m 1473 ls [.int (xs 2), .int (xs 1), .ref xa]) rfl ?_
  refine lv_if_eq (tgt := 1480) hx hb dL_law_1473 (by decide) (fun c_1473 => ?_) (fun c_1473 => ?_)
  · refine lv_iconst (v := 0) hx hb dL_law_1480 (by decide) ?_
    refine lv_aload_n hx hb dL_law_1481 rfl (lv_at hl 2 rfl) ?_
    refine k_callSX (wr := [(ma, .inr (16, [.int 0, .ref m1, .ref m2, .ref m3, .ref m4, .ref m5, .ref m6, .ref m7, .ref m8, .int 0, .int 0])), (m3, .inr (4, [.int 0, .ref e0.1, .int 0]))]) (rest := []) (own := RL) ⟨hx, hb, hml, hown, hts⟩ (c_L_lock l hst D e0 xa x1 x2 x3 x4 x5 g1 g2 g3 g4 ((xs 1)) 0 o1 z3 ((fun _ => 0)) ) (vx_cwSW 4 hts gl_S_c_L_lock rfl rfl rfl (by decide +kernel) ⟨Nat.le_of_ble_eq_true rfl, Nat.le_of_ble_eq_true rfl⟩) hh [0, 1, 4] [2, 3] [0] rfl rfl rfl rfl (by decide) rfl rfl hl rfl (Nat.le_of_ble_eq_true rfl) dL_law_1482 ⟨Nat.le_of_ble_eq_true rfl, (Nat.le_of_ble_eq_true rfl)⟩ (fun _ _ _ _ _ h => h.elim) (fun v w ty1 H locs hp hh => ?_)
    obtain ⟨rfl, rfl, rfl⟩ := hp
    have hh : kH D kStr e0 A s H [(ma, .inr (16, [.int 0, .ref m1, .ref m2, .ref m3, .ref m4, .ref m5, .ref m6, .ref m7, .ref m8, .int 0, .int 0])), (m3, .inr (4, [.int 0, .ref e0.1, .int 0])), (o1, .inl (z3, 1, .inr (.inl (fun _ => 0))))] [(z3, .long), (z3, .long)] _ := hh
    refine W.eq (g2 := F0 m 1485 ls [.int 1]) (by first | rfl | decide) ?_
    refine lv_istore (lv' := [(6, .int 1), (5, .int 0), (4, .ref o2), (3, .ref o1), (2, .ref ma), (1, .ref xa), (0, .ref b)]) hx hb dL_law_1485 hl (by decide) rfl (fun ls hl => ?_)
    refine lv_aload_n hx hb dL_law_1487 rfl (lv_at hl 4 rfl) ?_
    refine lv_aload_n hx hb dL_law_1488 rfl (lv_at hl 6 rfl) ?_
    refine lv_iload hx hb dL_law_1489 (lv_at hl 1 rfl) ?_
    refine lv_iconst (v := 1) hx hb dL_law_1491 (by decide) ?_
    refine lv_iadd hx hb dL_law_1492 ?_
    refine W.eq (g2 := F0 m 1493 ls [.int 1, .ref b, .ref ma]) (by first | rfl | decide) ?_
    refine va_sld hx hb hX hbl hbA hh.2.2.2.1 (by unfold vp_in; decide) dL_law_1493 ?_
    refine W.eq (g2 := F0 m 1494 ls [.int (xs 1), .ref ma]) rfl ?_
    refine lv_aload_n hx hb dL_law_1494 rfl (lv_at hl 6 rfl) ?_
    refine lv_iload hx hb dL_law_1495 (lv_at hl 1 rfl) ?_
    refine lv_iconst (v := 2) hx hb dL_law_1497 (by decide) ?_
    refine lv_iadd hx hb dL_law_1498 ?_
    refine W.eq (g2 := F0 m 1499 ls [.int 2, .ref b, .int (xs 1), .ref ma]) (by first | rfl | decide) ?_
    refine va_sld hx hb hX hbl hbA hh.2.2.2.1 (by unfold vp_in; decide) dL_law_1499 ?_
    refine W.eq (g2 := F0 m 1500 ls [.int (xs 2), .int (xs 1), .ref ma]) rfl ?_
    refine lv_if_eq (tgt := 1507) hx hb dL_law_1500 (by decide) (fun _ => ?_) (fun c_1500 => absurd (c_1473) c_1500)
    refine lv_iconst (v := 0) hx hb dL_law_1507 (by decide) ?_
    refine k_callV (C := RX11) (T := TX11) (N := 11) (ci := 16) (q0 := 0) (wr := [(o1, .inl (z3, 1, .inr (.inl (fun _ => 0))))]) (rest := []) (own := RL) ⟨hx, hb, hml, hown, hts⟩ (c_X11_lock l hst D e0 ma 0 m1 m2 m3 m4 m5 m6 m7 m8 ((xs 1)) 0 ) (cwV 2 hts gl_V_c_X11_lock rfl rfl rfl (by decide +kernel) ⟨Nat.le_of_ble_eq_true rfl, Nat.le_of_ble_eq_true rfl⟩) hh rfl rfl [0, 1] [2] [] rfl rfl rfl rfl (by decide) rfl rfl hl rfl (Nat.le_of_ble_eq_true rfl) dL_law_1508 ⟨Nat.le_of_ble_eq_true rfl, (Nat.le_of_ble_eq_true rfl)⟩ (fun _ _ _ _ _ h => h.elim) (fun v w ty1 H locs hp hh => ?_)
    obtain ⟨rfl, rfl, rfl⟩ := hp
    have hh : kH D kStr e0 A s H [(o1, .inl (z3, 1, .inr (.inl (fun _ => 0)))), (ma, .inr (16, [.int 1, .ref m1, .ref m2, .ref m3, .ref m4, .ref m5, .ref m6, .ref m7, .ref m8, .int 0, .int 0]))] [(z3, .long), (z3, .long)] _ := hh
    refine W.eq (g2 := F0 m 1511 ls [.int 0]) (by first | rfl | decide) ?_
    refine lv_istore (lv' := [(7, .int 0), (6, .int 1), (5, .int 0), (4, .ref o2), (3, .ref o1), (2, .ref ma), (1, .ref xa), (0, .ref b)]) hx hb dL_law_1511 hl (by decide) rfl (fun ls hl => ?_)
    refine lv_aload_n hx hb dL_law_1513 rfl (lv_at hl 5 rfl) ?_
    refine k_callV (C := RX11) (T := TX11) (N := 11) (ci := 16) (q0 := 1) (wr := [(o1, .inl (z3, 1, .inr (.inl (fun _ => 0))))]) (rest := []) (own := RL) ⟨hx, hb, hml, hown, hts⟩ (c_X11_thrown l hst D e0 ma 1 m1 m2 m3 m4 m5 m6 m7 m8 ) (cwV 0 hts gl_V_c_X11_thrown rfl rfl rfl (by decide +kernel) ⟨Nat.le_of_ble_eq_true rfl, Nat.le_of_ble_eq_true rfl⟩) hh rfl rfl [1] [0] [] rfl rfl rfl rfl (by decide) rfl rfl hl rfl (Nat.le_of_ble_eq_true rfl) dL_law_1514 ⟨Nat.le_of_ble_eq_true rfl, (Nat.le_of_ble_eq_true rfl)⟩ (fun _ _ _ _ _ h => h.elim) (fun v w ty1 H locs hp hh => ?_)
    obtain ⟨rfl, rfl, rfl⟩ := hp
    have hh : kH D kStr e0 A s H [(o1, .inl (z3, 1, .inr (.inl (fun _ => 0)))), (ma, .inr (16, [.int 1, .ref m1, .ref m2, .ref m3, .ref m4, .ref m5, .ref m6, .ref m7, .ref m8, .int 0, .int 0]))] [(z3, .long), (z3, .long)] _ := hh
    refine W.eq (g2 := F0 m 1517 ls [.int 1]) (by first | rfl | decide) ?_
    refine lv_iload hx hb dL_law_1517 (lv_at hl 1 rfl) ?_
    refine lv_icmp_eq (tgt := 1524) hx hb dL_law_1519 (by decide) (fun _ => ?_) (fun c_1519 => absurd (by decide) c_1519)
    refine lv_iload hx hb dL_law_1524 (lv_at hl 1 rfl) ?_
    refine lv_if_ne (tgt := 1548) hx hb dL_law_1526 (by decide) (fun _ => ?_) (fun c_1526 => absurd c_1526 (by decide))
    refine lv_goto (tgt := 3429) hx hb dL_law_1548 (by decide) ?_
    refine W.widen (k := 1000) (n := 100000) (Nat.le_of_ble_eq_true rfl) (Nat.le_of_ble_eq_true rfl) ?_
    exact kk _ _ _ hh.2.2.2.1 (lv_sub hl [7, 2] rfl)
  · refine lv_iconst (v := 1) hx hb dL_law_1476 (by decide) ?_
    refine lv_goto (tgt := 1481) hx hb dL_law_1477 (by decide) ?_
    refine lv_aload_n hx hb dL_law_1481 rfl (lv_at hl 2 rfl) ?_
    refine k_callSX (wr := [(ma, .inr (16, [.int 0, .ref m1, .ref m2, .ref m3, .ref m4, .ref m5, .ref m6, .ref m7, .ref m8, .int 0, .int 0])), (m3, .inr (4, [.int 0, .ref e0.1, .int 0]))]) (rest := []) (own := RL) ⟨hx, hb, hml, hown, hts⟩ (c_L_lock l hst D e0 xa x1 x2 x3 x4 x5 g1 g2 g3 g4 ((xs 1)) 1 o1 z3 ((fun _ => 0)) ) (vx_cwSW 4 hts gl_S_c_L_lock rfl rfl rfl (by decide +kernel) ⟨Nat.le_of_ble_eq_true rfl, Nat.le_of_ble_eq_true rfl⟩) hh [0, 1, 4] [2, 3] [0] rfl rfl rfl rfl (by decide) rfl rfl hl rfl (Nat.le_of_ble_eq_true rfl) dL_law_1482 ⟨Nat.le_of_ble_eq_true rfl, (Nat.le_of_ble_eq_true rfl)⟩ (fun _ _ _ _ _ h => h.elim) (fun v w ty1 H locs hp hh => ?_)
    obtain ⟨rfl, rfl, rfl⟩ := hp
    have hh : kH D kStr e0 A s H [(ma, .inr (16, [.int 0, .ref m1, .ref m2, .ref m3, .ref m4, .ref m5, .ref m6, .ref m7, .ref m8, .int 0, .int 0])), (m3, .inr (4, [.int 0, .ref e0.1, .int 0])), (o1, .inl (z3, 1, .inr (.inl (fun _ => 0))))] [(z3, .long), (z3, .long)] _ := hh
    refine W.eq (g2 := F0 m 1485 ls [.int 1]) (by first | rfl | decide) ?_
    refine lv_istore (lv' := [(6, .int 1), (5, .int 0), (4, .ref o2), (3, .ref o1), (2, .ref ma), (1, .ref xa), (0, .ref b)]) hx hb dL_law_1485 hl (by decide) rfl (fun ls hl => ?_)
    refine lv_aload_n hx hb dL_law_1487 rfl (lv_at hl 4 rfl) ?_
    refine lv_aload_n hx hb dL_law_1488 rfl (lv_at hl 6 rfl) ?_
    refine lv_iload hx hb dL_law_1489 (lv_at hl 1 rfl) ?_
    refine lv_iconst (v := 1) hx hb dL_law_1491 (by decide) ?_
    refine lv_iadd hx hb dL_law_1492 ?_
    refine W.eq (g2 := F0 m 1493 ls [.int 1, .ref b, .ref ma]) (by first | rfl | decide) ?_
    refine va_sld hx hb hX hbl hbA hh.2.2.2.1 (by unfold vp_in; decide) dL_law_1493 ?_
    refine W.eq (g2 := F0 m 1494 ls [.int (xs 1), .ref ma]) rfl ?_
    refine lv_aload_n hx hb dL_law_1494 rfl (lv_at hl 6 rfl) ?_
    refine lv_iload hx hb dL_law_1495 (lv_at hl 1 rfl) ?_
    refine lv_iconst (v := 2) hx hb dL_law_1497 (by decide) ?_
    refine lv_iadd hx hb dL_law_1498 ?_
    refine W.eq (g2 := F0 m 1499 ls [.int 2, .ref b, .int (xs 1), .ref ma]) (by first | rfl | decide) ?_
    refine va_sld hx hb hX hbl hbA hh.2.2.2.1 (by unfold vp_in; decide) dL_law_1499 ?_
    refine W.eq (g2 := F0 m 1500 ls [.int (xs 2), .int (xs 1), .ref ma]) rfl ?_
    refine lv_if_eq (tgt := 1507) hx hb dL_law_1500 (by decide) (fun c_1500 => absurd c_1500 (c_1473)) (fun _ => ?_)
    refine lv_iconst (v := 1) hx hb dL_law_1503 (by decide) ?_
    refine lv_goto (tgt := 1508) hx hb dL_law_1504 (by decide) ?_
    refine k_callV (C := RX11) (T := TX11) (N := 11) (ci := 16) (q0 := 0) (wr := [(o1, .inl (z3, 1, .inr (.inl (fun _ => 0))))]) (rest := []) (own := RL) ⟨hx, hb, hml, hown, hts⟩ (c_X11_lock l hst D e0 ma 0 m1 m2 m3 m4 m5 m6 m7 m8 ((xs 1)) 1 ) (cwV 2 hts gl_V_c_X11_lock rfl rfl rfl (by decide +kernel) ⟨Nat.le_of_ble_eq_true rfl, Nat.le_of_ble_eq_true rfl⟩) hh rfl rfl [0, 1] [2] [] rfl rfl rfl rfl (by decide) rfl rfl hl rfl (Nat.le_of_ble_eq_true rfl) dL_law_1508 ⟨Nat.le_of_ble_eq_true rfl, (Nat.le_of_ble_eq_true rfl)⟩ (fun _ _ _ _ _ h => h.elim) (fun v w ty1 H locs hp hh => ?_)
    obtain ⟨rfl, rfl, rfl⟩ := hp
    have hh : kH D kStr e0 A s H [(o1, .inl (z3, 1, .inr (.inl (fun _ => 0)))), (ma, .inr (16, [.int 1, .ref m1, .ref m2, .ref m3, .ref m4, .ref m5, .ref m6, .ref m7, .ref m8, .int 0, .int 0]))] [(z3, .long), (z3, .long)] _ := hh
    refine W.eq (g2 := F0 m 1511 ls [.int 0]) (by first | rfl | decide) ?_
    refine lv_istore (lv' := [(7, .int 0), (6, .int 1), (5, .int 0), (4, .ref o2), (3, .ref o1), (2, .ref ma), (1, .ref xa), (0, .ref b)]) hx hb dL_law_1511 hl (by decide) rfl (fun ls hl => ?_)
    refine lv_aload_n hx hb dL_law_1513 rfl (lv_at hl 5 rfl) ?_
    refine k_callV (C := RX11) (T := TX11) (N := 11) (ci := 16) (q0 := 1) (wr := [(o1, .inl (z3, 1, .inr (.inl (fun _ => 0))))]) (rest := []) (own := RL) ⟨hx, hb, hml, hown, hts⟩ (c_X11_thrown l hst D e0 ma 1 m1 m2 m3 m4 m5 m6 m7 m8 ) (cwV 0 hts gl_V_c_X11_thrown rfl rfl rfl (by decide +kernel) ⟨Nat.le_of_ble_eq_true rfl, Nat.le_of_ble_eq_true rfl⟩) hh rfl rfl [1] [0] [] rfl rfl rfl rfl (by decide) rfl rfl hl rfl (Nat.le_of_ble_eq_true rfl) dL_law_1514 ⟨Nat.le_of_ble_eq_true rfl, (Nat.le_of_ble_eq_true rfl)⟩ (fun _ _ _ _ _ h => h.elim) (fun v w ty1 H locs hp hh => ?_)
    obtain ⟨rfl, rfl, rfl⟩ := hp
    have hh : kH D kStr e0 A s H [(o1, .inl (z3, 1, .inr (.inl (fun _ => 0)))), (ma, .inr (16, [.int 1, .ref m1, .ref m2, .ref m3, .ref m4, .ref m5, .ref m6, .ref m7, .ref m8, .int 0, .int 0]))] [(z3, .long), (z3, .long)] _ := hh
    refine W.eq (g2 := F0 m 1517 ls [.int 1]) (by first | rfl | decide) ?_
    refine lv_iload hx hb dL_law_1517 (lv_at hl 1 rfl) ?_
    refine lv_icmp_eq (tgt := 1524) hx hb dL_law_1519 (by decide) (fun _ => ?_) (fun c_1519 => absurd (by decide) c_1519)
    refine lv_iload hx hb dL_law_1524 (lv_at hl 1 rfl) ?_
    refine lv_if_ne (tgt := 1548) hx hb dL_law_1526 (by decide) (fun _ => ?_) (fun c_1526 => absurd c_1526 (by decide))
    refine lv_goto (tgt := 3429) hx hb dL_law_1548 (by decide) ?_
    refine W.widen (k := 1000) (n := 100000) (Nat.le_of_ble_eq_true rfl) (Nat.le_of_ble_eq_true rfl) ?_
    exact kk _ _ _ hh.2.2.2.1 (lv_sub hl [7, 2] rfl)
set_option maxHeartbeats 4000000 in
set_option maxRecDepth 100000 in
theorem law_21 {p : Program} {l : Launch} {e : Env} {s : State} {m : MethodId} {below : List Frame} {meth : Method} {c : Code} {Q : State → Prop} {b : Nat} {xs : Nat → Int32} {D : va_G} {e0 : kE} {A : Nat → Prop} (hst : l.stackTraces = false) (hx : p.tables.exec = Jvm.exec) (hb : c.code = cL_law) (hml : c.maxLocals = 9) (hts : ∀ w ∈ lw_tbl, w.before #[Value.ref b] s = true) (hown : s.vm.findClass RL = some m.cls) (hX : va_X b 5 xs s s.heap) (hbl : b < s.heap.size) (hbA : ¬ A b) {xa x1 x2 x3 x4 x5 g1 g2 g3 g4 h1 h2 h3 h4 h5 ma m1 m2 m3 m4 m5 m6 m7 m8 o1 o2 : Nat} {z1 z2 z3 z4 : ClassId}  {H : Heap} {locs : List Loc} {ls : Array Slot} (hh : kH D kStr e0 A s H (lwW e0 xa x1 x2 x3 x4 x5 g1 g2 g3 g4 h1 h2 h3 h4 h5 ma m1 m2 m3 m4 m5 m6 m7 m8 o1 o2 z1 z2 z3 z4) (lwT z1 z2 z3 z4) locs) (hl : lv_has ls 9 (lwL b xa ma o1 o2)) (kk : lwK p l e s m below meth c Q b A) : W p l e room_1 s m #[Value.ref b] below meth c H locs 100 10000 Q (F0 m 1675 ls []) := by
  have hh : kH D kStr e0 A s H [(xa, .inr (11, [.ref x1, .int 0, .ref x2, .int 0, .ref x3, .ref x4, .ref x5, .int 0])), (x3, .inr (9, [.ref g1, .int 0, .ref g2, .int 0, .ref g3, .ref g4])), (ma, .inr (16, [.int 0, .ref m1, .ref m2, .ref m3, .ref m4, .ref m5, .ref m6, .ref m7, .ref m8, .int 0, .int 0])), (m3, .inr (4, [.int 0, .ref e0.1, .int 0]))] [] _ := hh.sub [0, 1, 5, 8] [] rfl rfl rfl
  have hl : lv_has ls 9 [(5, .int 0), (4, .ref o2), (3, .ref o1), (2, .ref ma), (1, .ref xa), (0, .ref b)] := hl
  refine lv_aload_n hx hb dL_law_1675 rfl (lv_at hl 4 rfl) ?_
  refine k_callV (C := RX6) (T := TX6) (N := 8) (ci := 11) (q0 := 0) (wr := [(ma, .inr (16, [.int 0, .ref m1, .ref m2, .ref m3, .ref m4, .ref m5, .ref m6, .ref m7, .ref m8, .int 0, .int 0])), (m3, .inr (4, [.int 0, .ref e0.1, .int 0]))]) (rest := []) (own := RL) ⟨hx, hb, hml, hown, hts⟩ (c_X6_programLength l hst D e0 xa x1 x2 x3 x4 x5 g1 g2 g3 g4 ) (cwV 0 hts gl_V_c_X6_programLength rfl rfl rfl (by decide +kernel) ⟨Nat.le_of_ble_eq_true rfl, Nat.le_of_ble_eq_true rfl⟩) hh rfl rfl [0, 1] [2, 3] [] rfl rfl rfl rfl (by decide) rfl rfl hl rfl (Nat.le_of_ble_eq_true rfl) dL_law_1676 ⟨Nat.le_of_ble_eq_true rfl, (Nat.le_of_ble_eq_true rfl)⟩ (fun _ _ _ _ _ h => h.elim) (fun v w ty1 H locs hp hh => ?_)
  obtain ⟨rfl, rfl, rfl⟩ := hp
  have hh : kH D kStr e0 A s H [(ma, .inr (16, [.int 0, .ref m1, .ref m2, .ref m3, .ref m4, .ref m5, .ref m6, .ref m7, .ref m8, .int 0, .int 0])), (m3, .inr (4, [.int 0, .ref e0.1, .int 0]))] [] _ := hh
  refine W.eq (g2 := F0 m 1679 ls [.int 0]) (by first | rfl | decide) ?_
  refine lv_aload_n hx hb dL_law_1679 rfl (lv_at hl 3 rfl) ?_
  refine k_callV (C := RX11) (T := TX11) (N := 11) (ci := 16) (q0 := 0) (wr := []) (rest := [.int 0]) (own := RL) ⟨hx, hb, hml, hown, hts⟩ (c_X11_programLength l hst D e0 ma 0 m1 m2 m3 m4 m5 m6 m7 m8 ) (cwV 0 hts gl_V_c_X11_programLength rfl rfl rfl (by decide +kernel) ⟨Nat.le_of_ble_eq_true rfl, Nat.le_of_ble_eq_true rfl⟩) hh rfl rfl [0, 1] [] [] rfl rfl rfl rfl (by decide) rfl rfl hl rfl (Nat.le_of_ble_eq_true rfl) dL_law_1680 ⟨Nat.le_of_ble_eq_true rfl, (Nat.le_of_ble_eq_true rfl)⟩ (fun _ _ _ _ _ h => h.elim) (fun v w ty1 H locs hp hh => ?_)
  obtain ⟨rfl, rfl, rfl⟩ := hp
  have hh : kH D kStr e0 A s H [(ma, .inr (16, [.int 0, .ref m1, .ref m2, .ref m3, .ref m4, .ref m5, .ref m6, .ref m7, .ref m8, .int 0, .int 0]))] [] _ := hh
  refine W.eq (g2 := F0 m 1683 ls [.int 0, .int 0]) (by first | rfl | decide) ?_
  refine lv_icmp_eq (tgt := 3429) hx hb dL_law_1683 (by decide) (fun _ => ?_) (fun c_1683 => absurd (by decide) c_1683)
  refine W.widen (k := 1000) (n := 100000) (Nat.le_of_ble_eq_true rfl) (Nat.le_of_ble_eq_true rfl) ?_
  exact kk _ _ _ hh.2.2.2.1 (lv_sub hl [5, 0] rfl)
set_option maxHeartbeats 4000000 in
set_option maxRecDepth 100000 in
theorem law_49 {p : Program} {l : Launch} {e : Env} {s : State} {m : MethodId} {below : List Frame} {meth : Method} {c : Code} {Q : State → Prop} {b : Nat} {xs : Nat → Int32} {D : va_G} {e0 : kE} {A : Nat → Prop} (hst : l.stackTraces = false) (hx : p.tables.exec = Jvm.exec) (hb : c.code = cL_law) (hml : c.maxLocals = 9) (hts : ∀ w ∈ lw_tbl, w.before #[Value.ref b] s = true) (hown : s.vm.findClass RL = some m.cls) (hX : va_X b 5 xs s s.heap) (hbl : b < s.heap.size) (hbA : ¬ A b) {xa x1 x2 x3 x4 x5 g1 g2 g3 g4 h1 h2 h3 h4 h5 ma m1 m2 m3 m4 m5 m6 m7 m8 o1 o2 : Nat} {z1 z2 z3 z4 : ClassId}  {H : Heap} {locs : List Loc} {ls : Array Slot} (hh : kH D kStr e0 A s H (lwW e0 xa x1 x2 x3 x4 x5 g1 g2 g3 g4 h1 h2 h3 h4 h5 ma m1 m2 m3 m4 m5 m6 m7 m8 o1 o2 z1 z2 z3 z4) (lwT z1 z2 z3 z4) locs) (hl : lv_has ls 9 (lwL b xa ma o1 o2)) (kk : lwK p l e s m below meth c Q b A) : W p l e room_1 s m #[Value.ref b] below meth c H locs 100 10000 Q (F0 m 3416 ls []) := by
  have hh : kH D kStr e0 A s H [(xa, .inr (11, [.ref x1, .int 0, .ref x2, .int 0, .ref x3, .ref x4, .ref x5, .int 0])), (x3, .inr (9, [.ref g1, .int 0, .ref g2, .int 0, .ref g3, .ref g4])), (ma, .inr (16, [.int 0, .ref m1, .ref m2, .ref m3, .ref m4, .ref m5, .ref m6, .ref m7, .ref m8, .int 0, .int 0]))] [] _ := hh.sub [0, 1, 5] [] rfl rfl rfl
  have hl : lv_has ls 9 [(5, .int 0), (4, .ref o2), (3, .ref o1), (2, .ref ma), (1, .ref xa), (0, .ref b)] := hl
  refine lv_aload_n hx hb dL_law_3416 rfl (lv_at hl 4 rfl) ?_
  refine k_callV (C := RX6) (T := TX6) (N := 8) (ci := 11) (q0 := 0) (wr := [(ma, .inr (16, [.int 0, .ref m1, .ref m2, .ref m3, .ref m4, .ref m5, .ref m6, .ref m7, .ref m8, .int 0, .int 0]))]) (rest := []) (own := RL) ⟨hx, hb, hml, hown, hts⟩ (c_X6_isTrue l hst D e0 xa x1 x2 x3 x4 x5 g1 g2 g3 g4 ) (cwV 0 hts gl_V_c_X6_isTrue rfl rfl rfl (by decide +kernel) ⟨Nat.le_of_ble_eq_true rfl, Nat.le_of_ble_eq_true rfl⟩) hh rfl rfl [0, 1] [2] [] rfl rfl rfl rfl (by decide) rfl rfl hl rfl (Nat.le_of_ble_eq_true rfl) dL_law_3417 ⟨Nat.le_of_ble_eq_true rfl, (Nat.le_of_ble_eq_true rfl)⟩ (fun _ _ _ _ _ h => h.elim) (fun v w ty1 H locs hp hh => ?_)
  obtain ⟨rfl, rfl, rfl⟩ := hp
  have hh : kH D kStr e0 A s H [(ma, .inr (16, [.int 0, .ref m1, .ref m2, .ref m3, .ref m4, .ref m5, .ref m6, .ref m7, .ref m8, .int 0, .int 0]))] [] _ := hh
  refine W.eq (g2 := F0 m 3420 ls [.int 1]) (by first | rfl | decide) ?_
  refine lv_aload_n hx hb dL_law_3420 rfl (lv_at hl 3 rfl) ?_
  refine k_callV (C := RX11) (T := TX11) (N := 11) (ci := 16) (q0 := 0) (wr := []) (rest := [.int 1]) (own := RL) ⟨hx, hb, hml, hown, hts⟩ (c_X11_isTrue l hst D e0 ma 0 m1 m2 m3 m4 m5 m6 m7 m8 ) (cwV 0 hts gl_V_c_X11_isTrue rfl rfl rfl (by decide +kernel) ⟨Nat.le_of_ble_eq_true rfl, Nat.le_of_ble_eq_true rfl⟩) hh rfl rfl [0] [] [] rfl rfl rfl rfl (by decide) rfl rfl hl rfl (Nat.le_of_ble_eq_true rfl) dL_law_3421 ⟨Nat.le_of_ble_eq_true rfl, (Nat.le_of_ble_eq_true rfl)⟩ (fun _ _ _ _ _ h => h.elim) (fun v w ty1 H locs hp hh => ?_)
  obtain ⟨rfl, rfl, rfl⟩ := hp
  have hh : kH D kStr e0 A s H [(ma, .inr (16, [.int 0, .ref m1, .ref m2, .ref m3, .ref m4, .ref m5, .ref m6, .ref m7, .ref m8, .int 0, .int 0]))] [] _ := hh
  refine W.eq (g2 := F0 m 3424 ls [.int 1, .int 1]) (by first | rfl | decide) ?_
  refine lv_icmp_eq (tgt := 3429) hx hb dL_law_3424 (by decide) (fun _ => ?_) (fun c_3424 => absurd (by decide) c_3424)
  refine W.widen (k := 1000) (n := 100000) (Nat.le_of_ble_eq_true rfl) (Nat.le_of_ble_eq_true rfl) ?_
  exact kk _ _ _ hh.2.2.2.1 (lv_sub hl [5, 0] rfl)
set_option maxHeartbeats 4000000 in
set_option maxRecDepth 100000 in
theorem law_31 {p : Program} {l : Launch} {e : Env} {s : State} {m : MethodId} {below : List Frame} {meth : Method} {c : Code} {Q : State → Prop} {b : Nat} {xs : Nat → Int32} {D : va_G} {e0 : kE} {A : Nat → Prop} (hst : l.stackTraces = false) (hx : p.tables.exec = Jvm.exec) (hb : c.code = cL_law) (hml : c.maxLocals = 9) (hts : ∀ w ∈ lw_tbl, w.before #[Value.ref b] s = true) (hown : s.vm.findClass RL = some m.cls) (hX : va_X b 5 xs s s.heap) (hbl : b < s.heap.size) (hbA : ¬ A b) {xa x1 x2 x3 x4 x5 g1 g2 g3 g4 h1 h2 h3 h4 h5 ma m1 m2 m3 m4 m5 m6 m7 m8 o1 o2 : Nat} {z1 z2 z3 z4 : ClassId} (h : -30 ≤ xs 1 ∧ xs 1 ≤ 30) {H : Heap} {locs : List Loc} {ls : Array Slot} (hh : kH D kStr e0 A s H (lwW e0 xa x1 x2 x3 x4 x5 g1 g2 g3 g4 h1 h2 h3 h4 h5 ma m1 m2 m3 m4 m5 m6 m7 m8 o1 o2 z1 z2 z3 z4) (lwT z1 z2 z3 z4) locs) (hl : lv_has ls 9 (lwL b xa ma o1 o2)) (kk : lwK p l e s m below meth c Q b A) : W p l e room_1 s m #[Value.ref b] below meth c H locs 100 10000 Q (F0 m 2228 ls []) := by
  have hh : kH D kStr e0 A s H [(xa, .inr (11, [.ref x1, .int 0, .ref x2, .int 0, .ref x3, .ref x4, .ref x5, .int 0])), (x3, .inr (9, [.ref g1, .int 0, .ref g2, .int 0, .ref g3, .ref g4])), (ma, .inr (16, [.int 0, .ref m1, .ref m2, .ref m3, .ref m4, .ref m5, .ref m6, .ref m7, .ref m8, .int 0, .int 0])), (m3, .inr (4, [.int 0, .ref e0.1, .int 0])), (o1, .inl (z3, 1, .inr (.inl (fun _ => 0))))] [(z3, .long)] _ := hh.sub [0, 1, 5, 8, 14] [2] rfl rfl rfl
  have hl : lv_has ls 9 [(5, .int 0), (4, .ref o2), (3, .ref o1), (2, .ref ma), (1, .ref xa), (0, .ref b)] := hl
  refine lv_aload_n hx hb dL_law_2228 rfl (lv_at hl 4 rfl) ?_
  refine lv_aload_n hx hb dL_law_2229 rfl (lv_at hl 5 rfl) ?_
  refine lv_iload hx hb dL_law_2230 (lv_at hl 0 rfl) ?_
  refine lv_iconst (v := 1) hx hb dL_law_2232 (by decide) ?_
  refine lv_iadd hx hb dL_law_2233 ?_
  refine W.eq (g2 := F0 m 2234 ls [.int 1, .ref b, .ref xa]) (by first | rfl | decide) ?_
  refine va_sld hx hb hX hbl hbA hh.2.2.2.1 (by unfold vp_in; decide) dL_law_2234 ?_
  refine W.eq (g2 := F0 m 2235 ls [.int (xs 1), .ref xa]) rfl ?_
  refine lv_aload_n hx hb dL_law_2235 rfl (lv_at hl 2 rfl) ?_
  refine k_callSX (wr := [(ma, .inr (16, [.int 0, .ref m1, .ref m2, .ref m3, .ref m4, .ref m5, .ref m6, .ref m7, .ref m8, .int 0, .int 0])), (m3, .inr (4, [.int 0, .ref e0.1, .int 0]))]) (rest := []) (own := RL) ⟨hx, hb, hml, hown, hts⟩ (c_L_edition l hst D e0 xa x1 x2 x3 x4 x5 g1 g2 g3 g4 ((xs 1)) o1 z3 ((fun _ => 0)) h) (vx_cwSW 3 hts gl_S_c_L_edition rfl rfl rfl (by decide +kernel) ⟨Nat.le_of_ble_eq_true rfl, Nat.le_of_ble_eq_true rfl⟩) hh [0, 1, 4] [2, 3] [0] rfl rfl rfl rfl (by decide) rfl rfl hl rfl (Nat.le_of_ble_eq_true rfl) dL_law_2236 ⟨Nat.le_of_ble_eq_true rfl, (Nat.le_of_ble_eq_true rfl)⟩ (fun _ _ _ _ _ h => h.elim) (fun v w ty1 H locs hp hh => ?_)
  obtain ⟨rfl, rfl, rfl⟩ := hp
  have hh : kH D kStr e0 A s H [(ma, .inr (16, [.int 0, .ref m1, .ref m2, .ref m3, .ref m4, .ref m5, .ref m6, .ref m7, .ref m8, .int 0, .int 0])), (m3, .inr (4, [.int 0, .ref e0.1, .int 0])), (o1, .inl (z3, 1, .inr (.inl (fun _ => 0))))] [(z3, .long), (z3, .long)] _ := hh
  refine W.eq (g2 := F0 m 2239 ls [.int 2]) (by first | rfl | decide) ?_
  refine lv_istore (lv' := [(6, .int 2), (5, .int 0), (4, .ref o2), (3, .ref o1), (2, .ref ma), (1, .ref xa), (0, .ref b)]) hx hb dL_law_2239 hl (by decide) rfl (fun ls hl => ?_)
  refine lv_aload_n hx hb dL_law_2241 rfl (lv_at hl 4 rfl) ?_
  refine lv_aload_n hx hb dL_law_2242 rfl (lv_at hl 6 rfl) ?_
  refine lv_iload hx hb dL_law_2243 (lv_at hl 1 rfl) ?_
  refine lv_iconst (v := 1) hx hb dL_law_2245 (by decide) ?_
  refine lv_iadd hx hb dL_law_2246 ?_
  refine W.eq (g2 := F0 m 2247 ls [.int 1, .ref b, .ref ma]) (by first | rfl | decide) ?_
  refine va_sld hx hb hX hbl hbA hh.2.2.2.1 (by unfold vp_in; decide) dL_law_2247 ?_
  refine W.eq (g2 := F0 m 2248 ls [.int (xs 1), .ref ma]) rfl ?_
  refine k_callV (C := RX11) (T := TX11) (N := 11) (ci := 16) (q0 := 0) (wr := [(o1, .inl (z3, 1, .inr (.inl (fun _ => 0))))]) (rest := []) (own := RL) ⟨hx, hb, hml, hown, hts⟩ (c_X11_edition l hst D e0 ma 0 m1 m2 m3 m4 m5 m6 m7 m8 ((xs 1)) h) (cwV 1 hts gl_V_c_X11_edition rfl rfl rfl (by decide +kernel) ⟨Nat.le_of_ble_eq_true rfl, Nat.le_of_ble_eq_true rfl⟩) hh rfl rfl [0, 1] [2] [] rfl rfl rfl rfl (by decide) rfl rfl hl rfl (Nat.le_of_ble_eq_true rfl) dL_law_2248 ⟨Nat.le_of_ble_eq_true rfl, (Nat.le_of_ble_eq_true rfl)⟩ (fun _ _ _ _ _ h => h.elim) (fun v w ty1 H locs hp hh => ?_)
  obtain ⟨rfl, rfl, rfl⟩ := hp
  have hh : kH D kStr e0 A s H [(o1, .inl (z3, 1, .inr (.inl (fun _ => 0)))), (ma, .inr (16, [.int 2, .ref m1, .ref m2, .ref m3, .ref m4, .ref m5, .ref m6, .ref m7, .ref m8, .int 0, .int 0]))] [(z3, .long), (z3, .long)] _ := hh
  refine W.eq (g2 := F0 m 2251 ls [.int 0]) (by first | rfl | decide) ?_
  refine lv_istore (lv' := [(7, .int 0), (6, .int 2), (5, .int 0), (4, .ref o2), (3, .ref o1), (2, .ref ma), (1, .ref xa), (0, .ref b)]) hx hb dL_law_2251 hl (by decide) rfl (fun ls hl => ?_)
  refine lv_aload_n hx hb dL_law_2253 rfl (lv_at hl 5 rfl) ?_
  refine k_callV (C := RX11) (T := TX11) (N := 11) (ci := 16) (q0 := 1) (wr := [(o1, .inl (z3, 1, .inr (.inl (fun _ => 0))))]) (rest := []) (own := RL) ⟨hx, hb, hml, hown, hts⟩ (c_X11_thrown l hst D e0 ma 2 m1 m2 m3 m4 m5 m6 m7 m8 ) (cwV 0 hts gl_V_c_X11_thrown rfl rfl rfl (by decide +kernel) ⟨Nat.le_of_ble_eq_true rfl, Nat.le_of_ble_eq_true rfl⟩) hh rfl rfl [1] [0] [] rfl rfl rfl rfl (by decide) rfl rfl hl rfl (Nat.le_of_ble_eq_true rfl) dL_law_2254 ⟨Nat.le_of_ble_eq_true rfl, (Nat.le_of_ble_eq_true rfl)⟩ (fun _ _ _ _ _ h => h.elim) (fun v w ty1 H locs hp hh => ?_)
  obtain ⟨rfl, rfl, rfl⟩ := hp
  have hh : kH D kStr e0 A s H [(o1, .inl (z3, 1, .inr (.inl (fun _ => 0)))), (ma, .inr (16, [.int 2, .ref m1, .ref m2, .ref m3, .ref m4, .ref m5, .ref m6, .ref m7, .ref m8, .int 0, .int 0]))] [(z3, .long), (z3, .long)] _ := hh
  refine W.eq (g2 := F0 m 2257 ls [.int 2]) (by first | rfl | decide) ?_
  refine lv_iload hx hb dL_law_2257 (lv_at hl 1 rfl) ?_
  refine lv_icmp_eq (tgt := 2264) hx hb dL_law_2259 (by decide) (fun _ => ?_) (fun c_2259 => absurd (by decide) c_2259)
  refine lv_iload hx hb dL_law_2264 (lv_at hl 1 rfl) ?_
  refine lv_if_ne (tgt := 2281) hx hb dL_law_2266 (by decide) (fun _ => ?_) (fun c_2266 => absurd c_2266 (by decide))
  refine lv_goto (tgt := 3429) hx hb dL_law_2281 (by decide) ?_
  refine W.widen (k := 1000) (n := 100000) (Nat.le_of_ble_eq_true rfl) (Nat.le_of_ble_eq_true rfl) ?_
  exact kk _ _ _ hh.2.2.2.1 (lv_sub hl [7, 2] rfl)
set_option maxHeartbeats 4000000 in
set_option maxRecDepth 100000 in
theorem law_31_bad {p : Program} {l : Launch} {e : Env} {s : State} {m : MethodId} {below : List Frame} {meth : Method} {c : Code} {Q : State → Prop} {b : Nat} {xs : Nat → Int32} {D : va_G} {e0 : kE} {A : Nat → Prop} (hst : l.stackTraces = false) (hx : p.tables.exec = Jvm.exec) (hb : c.code = cL_law) (hml : c.maxLocals = 9) (hts : ∀ w ∈ lw_tbl, w.before #[Value.ref b] s = true) (hown : s.vm.findClass RL = some m.cls) (hX : va_X b 5 xs s s.heap) (hbl : b < s.heap.size) (hbA : ¬ A b) {xa x1 x2 x3 x4 x5 g1 g2 g3 g4 h1 h2 h3 h4 h5 ma m1 m2 m3 m4 m5 m6 m7 m8 o1 o2 : Nat} {z1 z2 z3 z4 : ClassId} (h : ¬ (-30 ≤ xs 1 ∧ xs 1 ≤ 30)) {H : Heap} {locs : List Loc} {ls : Array Slot} (hh : kH D kStr e0 A s H (lwW e0 xa x1 x2 x3 x4 x5 g1 g2 g3 g4 h1 h2 h3 h4 h5 ma m1 m2 m3 m4 m5 m6 m7 m8 o1 o2 z1 z2 z3 z4) (lwT z1 z2 z3 z4) locs) (hl : lv_has ls 9 (lwL b xa ma o1 o2)) (kk : lwK p l e s m below meth c Q b A) : W p l e room_1 s m #[Value.ref b] below meth c H locs 100 10000 Q (F0 m 2228 ls []) := by
  have hh : kH D kStr e0 A s H [(xa, .inr (11, [.ref x1, .int 0, .ref x2, .int 0, .ref x3, .ref x4, .ref x5, .int 0])), (ma, .inr (16, [.int 0, .ref m1, .ref m2, .ref m3, .ref m4, .ref m5, .ref m6, .ref m7, .ref m8, .int 0, .int 0])), (o1, .inl (z3, 1, .inr (.inl (fun _ => 0))))] [(z3, .long)] _ := hh.sub [0, 5, 14] [2] rfl rfl rfl
  have hl : lv_has ls 9 [(5, .int 0), (4, .ref o2), (3, .ref o1), (2, .ref ma), (1, .ref xa), (0, .ref b)] := hl
  refine lv_aload_n hx hb dL_law_2228 rfl (lv_at hl 4 rfl) ?_
  refine lv_aload_n hx hb dL_law_2229 rfl (lv_at hl 5 rfl) ?_
  refine lv_iload hx hb dL_law_2230 (lv_at hl 0 rfl) ?_
  refine lv_iconst (v := 1) hx hb dL_law_2232 (by decide) ?_
  refine lv_iadd hx hb dL_law_2233 ?_
  refine W.eq (g2 := F0 m 2234 ls [.int 1, .ref b, .ref xa]) (by first | rfl | decide) ?_
  refine va_sld hx hb hX hbl hbA hh.2.2.2.1 (by unfold vp_in; decide) dL_law_2234 ?_
  refine W.eq (g2 := F0 m 2235 ls [.int (xs 1), .ref xa]) rfl ?_
  refine lv_aload_n hx hb dL_law_2235 rfl (lv_at hl 2 rfl) ?_
  refine k_callSX (wr := [(ma, .inr (16, [.int 0, .ref m1, .ref m2, .ref m3, .ref m4, .ref m5, .ref m6, .ref m7, .ref m8, .int 0, .int 0]))]) (rest := []) (own := RL) ⟨hx, hb, hml, hown, hts⟩ (c_L_edition_bad l hst D e0 xa x1 x2 x3 x4 x5 ((xs 1)) o1 z3 ((fun _ => 0)) h) (vx_cwSW 3 hts gl_S_c_L_edition_bad rfl rfl rfl (by decide +kernel) ⟨Nat.le_of_ble_eq_true rfl, Nat.le_of_ble_eq_true rfl⟩) hh [0, 2] [1] [0] rfl rfl rfl rfl (by decide) rfl rfl hl rfl (Nat.le_of_ble_eq_true rfl) dL_law_2236 ⟨Nat.le_of_ble_eq_true rfl, (Nat.le_of_ble_eq_true rfl)⟩ (fun _ _ _ _ _ h => h.elim) (fun v w ty1 H locs hp hh => ?_)
  obtain ⟨rfl, rfl, rfl⟩ := hp
  have hh : kH D kStr e0 A s H [(ma, .inr (16, [.int 0, .ref m1, .ref m2, .ref m3, .ref m4, .ref m5, .ref m6, .ref m7, .ref m8, .int 0, .int 0])), (o1, .inl (z3, 1, .inr (.inl (fun _ => 0))))] [(z3, .long), (z3, .long)] _ := hh
  refine W.eq (g2 := F0 m 2239 ls [.int 1]) (by first | rfl | decide) ?_
  refine lv_istore (lv' := [(6, .int 1), (5, .int 0), (4, .ref o2), (3, .ref o1), (2, .ref ma), (1, .ref xa), (0, .ref b)]) hx hb dL_law_2239 hl (by decide) rfl (fun ls hl => ?_)
  refine lv_aload_n hx hb dL_law_2241 rfl (lv_at hl 4 rfl) ?_
  refine lv_aload_n hx hb dL_law_2242 rfl (lv_at hl 6 rfl) ?_
  refine lv_iload hx hb dL_law_2243 (lv_at hl 1 rfl) ?_
  refine lv_iconst (v := 1) hx hb dL_law_2245 (by decide) ?_
  refine lv_iadd hx hb dL_law_2246 ?_
  refine W.eq (g2 := F0 m 2247 ls [.int 1, .ref b, .ref ma]) (by first | rfl | decide) ?_
  refine va_sld hx hb hX hbl hbA hh.2.2.2.1 (by unfold vp_in; decide) dL_law_2247 ?_
  refine W.eq (g2 := F0 m 2248 ls [.int (xs 1), .ref ma]) rfl ?_
  refine k_callV (C := RX11) (T := TX11) (N := 11) (ci := 16) (q0 := 0) (wr := [(o1, .inl (z3, 1, .inr (.inl (fun _ => 0))))]) (rest := []) (own := RL) ⟨hx, hb, hml, hown, hts⟩ (c_X11_edition_bad l hst D e0 ma 0 m1 m2 m3 m4 m5 m6 m7 m8 ((xs 1)) h) (cwV 1 hts gl_V_c_X11_edition_bad rfl rfl rfl (by decide +kernel) ⟨Nat.le_of_ble_eq_true rfl, Nat.le_of_ble_eq_true rfl⟩) hh rfl rfl [0] [1] [] rfl rfl rfl rfl (by decide) rfl rfl hl rfl (Nat.le_of_ble_eq_true rfl) dL_law_2248 ⟨Nat.le_of_ble_eq_true rfl, (Nat.le_of_ble_eq_true rfl)⟩ (fun _ _ _ _ _ h => h.elim) (fun v w ty1 H locs hp hh => ?_)
  obtain ⟨rfl, rfl, rfl⟩ := hp
  have hh : kH D kStr e0 A s H [(o1, .inl (z3, 1, .inr (.inl (fun _ => 0)))), (ma, .inr (16, [.int 1, .ref m1, .ref m2, .ref m3, .ref m4, .ref m5, .ref m6, .ref m7, .ref m8, .int 0, .int 0]))] [(z3, .long), (z3, .long)] _ := hh
  refine W.eq (g2 := F0 m 2251 ls [.int 0]) (by first | rfl | decide) ?_
  refine lv_istore (lv' := [(7, .int 0), (6, .int 1), (5, .int 0), (4, .ref o2), (3, .ref o1), (2, .ref ma), (1, .ref xa), (0, .ref b)]) hx hb dL_law_2251 hl (by decide) rfl (fun ls hl => ?_)
  refine lv_aload_n hx hb dL_law_2253 rfl (lv_at hl 5 rfl) ?_
  refine k_callV (C := RX11) (T := TX11) (N := 11) (ci := 16) (q0 := 1) (wr := [(o1, .inl (z3, 1, .inr (.inl (fun _ => 0))))]) (rest := []) (own := RL) ⟨hx, hb, hml, hown, hts⟩ (c_X11_thrown l hst D e0 ma 1 m1 m2 m3 m4 m5 m6 m7 m8 ) (cwV 0 hts gl_V_c_X11_thrown rfl rfl rfl (by decide +kernel) ⟨Nat.le_of_ble_eq_true rfl, Nat.le_of_ble_eq_true rfl⟩) hh rfl rfl [1] [0] [] rfl rfl rfl rfl (by decide) rfl rfl hl rfl (Nat.le_of_ble_eq_true rfl) dL_law_2254 ⟨Nat.le_of_ble_eq_true rfl, (Nat.le_of_ble_eq_true rfl)⟩ (fun _ _ _ _ _ h => h.elim) (fun v w ty1 H locs hp hh => ?_)
  obtain ⟨rfl, rfl, rfl⟩ := hp
  have hh : kH D kStr e0 A s H [(o1, .inl (z3, 1, .inr (.inl (fun _ => 0)))), (ma, .inr (16, [.int 1, .ref m1, .ref m2, .ref m3, .ref m4, .ref m5, .ref m6, .ref m7, .ref m8, .int 0, .int 0]))] [(z3, .long), (z3, .long)] _ := hh
  refine W.eq (g2 := F0 m 2257 ls [.int 1]) (by first | rfl | decide) ?_
  refine lv_iload hx hb dL_law_2257 (lv_at hl 1 rfl) ?_
  refine lv_icmp_eq (tgt := 2264) hx hb dL_law_2259 (by decide) (fun _ => ?_) (fun c_2259 => absurd (by decide) c_2259)
  refine lv_iload hx hb dL_law_2264 (lv_at hl 1 rfl) ?_
  refine lv_if_ne (tgt := 2281) hx hb dL_law_2266 (by decide) (fun _ => ?_) (fun c_2266 => absurd c_2266 (by decide))
  refine lv_goto (tgt := 3429) hx hb dL_law_2281 (by decide) ?_
  refine W.widen (k := 1000) (n := 100000) (Nat.le_of_ble_eq_true rfl) (Nat.le_of_ble_eq_true rfl) ?_
  exact kk _ _ _ hh.2.2.2.1 (lv_sub hl [7, 2] rfl)
set_option maxHeartbeats 4000000 in
set_option maxRecDepth 100000 in
theorem law_43 {p : Program} {l : Launch} {e : Env} {s : State} {m : MethodId} {below : List Frame} {meth : Method} {c : Code} {Q : State → Prop} {b : Nat} {xs : Nat → Int32} {D : va_G} {e0 : kE} {A : Nat → Prop} (hst : l.stackTraces = false) (hx : p.tables.exec = Jvm.exec) (hb : c.code = cL_law) (hml : c.maxLocals = 9) (hts : ∀ w ∈ lw_tbl, w.before #[Value.ref b] s = true) (hown : s.vm.findClass RL = some m.cls) (hX : va_X b 5 xs s s.heap) (hbl : b < s.heap.size) (hbA : ¬ A b) {xa x1 x2 x3 x4 x5 g1 g2 g3 g4 h1 h2 h3 h4 h5 ma m1 m2 m3 m4 m5 m6 m7 m8 o1 o2 : Nat} {z1 z2 z3 z4 : ClassId} (h : 0 ≤ xs 1 ∧ xs 1 ≤ 7) (h2 : 1 ≤ xs 2 ∧ xs 2 ≤ 999) {H : Heap} {locs : List Loc} {ls : Array Slot} (hh : kH D kStr e0 A s H (lwW e0 xa x1 x2 x3 x4 x5 g1 g2 g3 g4 h1 h2 h3 h4 h5 ma m1 m2 m3 m4 m5 m6 m7 m8 o1 o2 z1 z2 z3 z4) (lwT z1 z2 z3 z4) locs) (hl : lv_has ls 9 (lwL b xa ma o1 o2)) (kk : lwK p l e s m below meth c Q b A) : W p l e room_1 s m #[Value.ref b] below meth c H locs 100 10000 Q (F0 m 3068 ls []) := by
  have hh : kH D kStr e0 A s H [(xa, .inr (11, [.ref x1, .int 0, .ref x2, .int 0, .ref x3, .ref x4, .ref x5, .int 0])), (x3, .inr (9, [.ref g1, .int 0, .ref g2, .int 0, .ref g3, .ref g4])), (ma, .inr (16, [.int 0, .ref m1, .ref m2, .ref m3, .ref m4, .ref m5, .ref m6, .ref m7, .ref m8, .int 0, .int 0])), (m3, .inr (4, [.int 0, .ref e0.1, .int 0])), (o1, .inl (z3, 1, .inr (.inl (fun _ => 0))))] [(z3, .long)] _ := hh.sub [0, 1, 5, 8, 14] [2] rfl rfl rfl
  have hl : lv_has ls 9 [(5, .int 0), (4, .ref o2), (3, .ref o1), (2, .ref ma), (1, .ref xa), (0, .ref b)] := hl
  refine lv_aload_n hx hb dL_law_3068 rfl (lv_at hl 4 rfl) ?_
  refine lv_aload_n hx hb dL_law_3069 rfl (lv_at hl 5 rfl) ?_
  refine lv_iload hx hb dL_law_3070 (lv_at hl 0 rfl) ?_
  refine lv_iconst (v := 1) hx hb dL_law_3072 (by decide) ?_
  refine lv_iadd hx hb dL_law_3073 ?_
  refine W.eq (g2 := F0 m 3074 ls [.int 1, .ref b, .ref xa]) (by first | rfl | decide) ?_
  refine va_sld hx hb hX hbl hbA hh.2.2.2.1 (by unfold vp_in; decide) dL_law_3074 ?_
  refine W.eq (g2 := F0 m 3075 ls [.int (xs 1), .ref xa]) rfl ?_
  refine lv_aload_n hx hb dL_law_3075 rfl (lv_at hl 5 rfl) ?_
  refine lv_iload hx hb dL_law_3076 (lv_at hl 0 rfl) ?_
  refine lv_iconst (v := 2) hx hb dL_law_3078 (by decide) ?_
  refine lv_iadd hx hb dL_law_3079 ?_
  refine W.eq (g2 := F0 m 3080 ls [.int 2, .ref b, .int (xs 1), .ref xa]) (by first | rfl | decide) ?_
  refine va_sld hx hb hX hbl hbA hh.2.2.2.1 (by unfold vp_in; decide) dL_law_3080 ?_
  refine W.eq (g2 := F0 m 3081 ls [.int (xs 2), .int (xs 1), .ref xa]) rfl ?_
  refine lv_aload_n hx hb dL_law_3081 rfl (lv_at hl 2 rfl) ?_
  refine k_callSX (wr := [(ma, .inr (16, [.int 0, .ref m1, .ref m2, .ref m3, .ref m4, .ref m5, .ref m6, .ref m7, .ref m8, .int 0, .int 0])), (m3, .inr (4, [.int 0, .ref e0.1, .int 0]))]) (rest := []) (own := RL) ⟨hx, hb, hml, hown, hts⟩ (c_L_earned l hst D e0 xa x1 x2 x3 x4 x5 g1 g2 g3 g4 ((xs 1)) ((xs 2)) o1 z3 ((fun _ => 0)) h h2) (vx_cwSW 4 hts gl_S_c_L_earned rfl rfl rfl (by decide +kernel) ⟨Nat.le_of_ble_eq_true rfl, Nat.le_of_ble_eq_true rfl⟩) hh [0, 1, 4] [2, 3] [0] rfl rfl rfl rfl (by decide) rfl rfl hl rfl (Nat.le_of_ble_eq_true rfl) dL_law_3082 ⟨Nat.le_of_ble_eq_true rfl, (Nat.le_of_ble_eq_true rfl)⟩ (fun _ _ _ _ _ h => h.elim) (fun v w ty1 H locs hp hh => ?_)
  obtain ⟨rfl, rfl, rfl⟩ := hp
  have hh : kH D kStr e0 A s H [(ma, .inr (16, [.int 0, .ref m1, .ref m2, .ref m3, .ref m4, .ref m5, .ref m6, .ref m7, .ref m8, .int 0, .int 0])), (m3, .inr (4, [.int 0, .ref e0.1, .int 0])), (o1, .inl (z3, 1, .inr (.inl (vp_updL ((fun _ => 0)) (0 : Int32).toNatClampNeg 0))))] [(z3, .long), (z3, .long)] _ := hh
  refine W.eq (g2 := F0 m 3085 ls [.int 0]) (by first | rfl | decide) ?_
  refine lv_istore (lv' := [(6, .int 0), (5, .int 0), (4, .ref o2), (3, .ref o1), (2, .ref ma), (1, .ref xa), (0, .ref b)]) hx hb dL_law_3085 hl (by decide) rfl (fun ls hl => ?_)
  refine lv_aload_n hx hb dL_law_3087 rfl (lv_at hl 4 rfl) ?_
  refine lv_aload_n hx hb dL_law_3088 rfl (lv_at hl 6 rfl) ?_
  refine lv_iload hx hb dL_law_3089 (lv_at hl 1 rfl) ?_
  refine lv_iconst (v := 1) hx hb dL_law_3091 (by decide) ?_
  refine lv_iadd hx hb dL_law_3092 ?_
  refine W.eq (g2 := F0 m 3093 ls [.int 1, .ref b, .ref ma]) (by first | rfl | decide) ?_
  refine va_sld hx hb hX hbl hbA hh.2.2.2.1 (by unfold vp_in; decide) dL_law_3093 ?_
  refine W.eq (g2 := F0 m 3094 ls [.int (xs 1), .ref ma]) rfl ?_
  refine lv_aload_n hx hb dL_law_3094 rfl (lv_at hl 6 rfl) ?_
  refine lv_iload hx hb dL_law_3095 (lv_at hl 1 rfl) ?_
  refine lv_iconst (v := 2) hx hb dL_law_3097 (by decide) ?_
  refine lv_iadd hx hb dL_law_3098 ?_
  refine W.eq (g2 := F0 m 3099 ls [.int 2, .ref b, .int (xs 1), .ref ma]) (by first | rfl | decide) ?_
  refine va_sld hx hb hX hbl hbA hh.2.2.2.1 (by unfold vp_in; decide) dL_law_3099 ?_
  refine W.eq (g2 := F0 m 3100 ls [.int (xs 2), .int (xs 1), .ref ma]) rfl ?_
  refine k_callV (C := RX11) (T := TX11) (N := 11) (ci := 16) (q0 := 0) (wr := [(o1, .inl (z3, 1, .inr (.inl (vp_updL ((fun _ => 0)) (0 : Int32).toNatClampNeg 0))))]) (rest := []) (own := RL) ⟨hx, hb, hml, hown, hts⟩ (c_X11_earned l hst D e0 ma 0 m1 m2 m3 m4 m5 m6 m7 m8 ((xs 1)) ((xs 2)) h h2) (cwV 2 hts gl_V_c_X11_earned rfl rfl rfl (by decide +kernel) ⟨Nat.le_of_ble_eq_true rfl, Nat.le_of_ble_eq_true rfl⟩) hh rfl rfl [0, 1] [2] [] rfl rfl rfl rfl (by decide) rfl rfl hl rfl (Nat.le_of_ble_eq_true rfl) dL_law_3100 ⟨Nat.le_of_ble_eq_true rfl, (Nat.le_of_ble_eq_true rfl)⟩ (fun _ _ _ _ _ h => h.elim) (fun v w ty1 H locs hp hh => ?_)
  obtain ⟨rfl, rfl, rfl⟩ := hp
  have hh : kH D kStr e0 A s H [(o1, .inl (z3, 1, .inr (.inl (vp_updL ((fun _ => 0)) (0 : Int32).toNatClampNeg 0)))), (ma, .inr (16, [.int 0, .ref m1, .ref m2, .ref m3, .ref m4, .ref m5, .ref m6, .ref m7, .ref m8, .int 0, .int 0]))] [(z3, .long), (z3, .long)] _ := hh
  refine W.eq (g2 := F0 m 3103 ls [.long 0]) (by first | rfl | decide) ?_
  refine lv_lstore (lv' := [(7, .long 0), (6, .int 0), (5, .int 0), (4, .ref o2), (3, .ref o1), (2, .ref ma), (1, .ref xa), (0, .ref b)]) hx hb dL_law_3103 hl (by decide) rfl (fun ls hl => ?_)
  refine lv_aload_n hx hb dL_law_3105 rfl (lv_at hl 5 rfl) ?_
  refine k_callV (C := RX11) (T := TX11) (N := 11) (ci := 16) (q0 := 1) (wr := [(o1, .inl (z3, 1, .inr (.inl (vp_updL ((fun _ => 0)) (0 : Int32).toNatClampNeg 0))))]) (rest := []) (own := RL) ⟨hx, hb, hml, hown, hts⟩ (c_X11_thrown l hst D e0 ma 0 m1 m2 m3 m4 m5 m6 m7 m8 ) (cwV 0 hts gl_V_c_X11_thrown rfl rfl rfl (by decide +kernel) ⟨Nat.le_of_ble_eq_true rfl, Nat.le_of_ble_eq_true rfl⟩) hh rfl rfl [1] [0] [] rfl rfl rfl rfl (by decide) rfl rfl hl rfl (Nat.le_of_ble_eq_true rfl) dL_law_3106 ⟨Nat.le_of_ble_eq_true rfl, (Nat.le_of_ble_eq_true rfl)⟩ (fun _ _ _ _ _ h => h.elim) (fun v w ty1 H locs hp hh => ?_)
  obtain ⟨rfl, rfl, rfl⟩ := hp
  have hh : kH D kStr e0 A s H [(o1, .inl (z3, 1, .inr (.inl (vp_updL ((fun _ => 0)) (0 : Int32).toNatClampNeg 0)))), (ma, .inr (16, [.int 0, .ref m1, .ref m2, .ref m3, .ref m4, .ref m5, .ref m6, .ref m7, .ref m8, .int 0, .int 0]))] [(z3, .long), (z3, .long)] _ := hh
  refine W.eq (g2 := F0 m 3109 ls [.int 0]) (by first | rfl | decide) ?_
  refine lv_iload hx hb dL_law_3109 (lv_at hl 1 rfl) ?_
  refine lv_icmp_eq (tgt := 3116) hx hb dL_law_3111 (by decide) (fun _ => ?_) (fun c_3111 => absurd (by decide) c_3111)
  refine lv_iload hx hb dL_law_3116 (lv_at hl 1 rfl) ?_
  refine lv_if_ne (tgt := 3132) hx hb dL_law_3118 (by decide) (fun c_3118 => absurd (by decide) c_3118) (fun _ => ?_)
  refine lv_aload_n hx hb dL_law_3121 rfl (lv_at hl 4 rfl) ?_
  refine lv_iconst (v := 0) hx hb dL_law_3122 (by decide) ?_
  refine k_lald (v := 0) hx hb hh 0 0 rfl rfl (by unfold vp_in; decide) (by first | rfl | simp [vp_updL]) dL_law_3123 ?_
  refine lv_lload hx hb dL_law_3124 (lv_at hl 0 rfl) ?_
  refine W.lcmp hx hb dL_law_3126 ?_
  refine W.eq (g2 := F0 m 3127 ls [.int 0]) (by rw [show lg_cmp (0 : Int64) (0 : Int64) = 0 from by decide]) ?_
  refine lv_if_eq (tgt := 3132) hx hb dL_law_3127 (by decide) (fun _ => ?_) (fun c_3127 => absurd (by decide) c_3127)
  refine lv_goto (tgt := 3429) hx hb dL_law_3132 (by decide) ?_
  refine W.widen (k := 1000) (n := 100000) (Nat.le_of_ble_eq_true rfl) (Nat.le_of_ble_eq_true rfl) ?_
  exact kk _ _ _ hh.2.2.2.1 (lv_sub hl [7, 2] rfl)
set_option maxHeartbeats 4000000 in
set_option maxRecDepth 100000 in
theorem law_43_bad1 {p : Program} {l : Launch} {e : Env} {s : State} {m : MethodId} {below : List Frame} {meth : Method} {c : Code} {Q : State → Prop} {b : Nat} {xs : Nat → Int32} {D : va_G} {e0 : kE} {A : Nat → Prop} (hst : l.stackTraces = false) (hx : p.tables.exec = Jvm.exec) (hb : c.code = cL_law) (hml : c.maxLocals = 9) (hts : ∀ w ∈ lw_tbl, w.before #[Value.ref b] s = true) (hown : s.vm.findClass RL = some m.cls) (hX : va_X b 5 xs s s.heap) (hbl : b < s.heap.size) (hbA : ¬ A b) {xa x1 x2 x3 x4 x5 g1 g2 g3 g4 h1 h2 h3 h4 h5 ma m1 m2 m3 m4 m5 m6 m7 m8 o1 o2 : Nat} {z1 z2 z3 z4 : ClassId} (h : ¬ (0 ≤ xs 1 ∧ xs 1 ≤ 7)) {H : Heap} {locs : List Loc} {ls : Array Slot} (hh : kH D kStr e0 A s H (lwW e0 xa x1 x2 x3 x4 x5 g1 g2 g3 g4 h1 h2 h3 h4 h5 ma m1 m2 m3 m4 m5 m6 m7 m8 o1 o2 z1 z2 z3 z4) (lwT z1 z2 z3 z4) locs) (hl : lv_has ls 9 (lwL b xa ma o1 o2)) (kk : lwK p l e s m below meth c Q b A) : W p l e room_1 s m #[Value.ref b] below meth c H locs 100 10000 Q (F0 m 3068 ls []) := by
  have hh : kH D kStr e0 A s H [(xa, .inr (11, [.ref x1, .int 0, .ref x2, .int 0, .ref x3, .ref x4, .ref x5, .int 0])), (ma, .inr (16, [.int 0, .ref m1, .ref m2, .ref m3, .ref m4, .ref m5, .ref m6, .ref m7, .ref m8, .int 0, .int 0])), (m3, .inr (4, [.int 0, .ref e0.1, .int 0])), (o1, .inl (z3, 1, .inr (.inl (fun _ => 0))))] [(z3, .long)] _ := hh.sub [0, 5, 8, 14] [2] rfl rfl rfl
  have hl : lv_has ls 9 [(5, .int 0), (4, .ref o2), (3, .ref o1), (2, .ref ma), (1, .ref xa), (0, .ref b)] := hl
  refine lv_aload_n hx hb dL_law_3068 rfl (lv_at hl 4 rfl) ?_
  refine lv_aload_n hx hb dL_law_3069 rfl (lv_at hl 5 rfl) ?_
  refine lv_iload hx hb dL_law_3070 (lv_at hl 0 rfl) ?_
  refine lv_iconst (v := 1) hx hb dL_law_3072 (by decide) ?_
  refine lv_iadd hx hb dL_law_3073 ?_
  refine W.eq (g2 := F0 m 3074 ls [.int 1, .ref b, .ref xa]) (by first | rfl | decide) ?_
  refine va_sld hx hb hX hbl hbA hh.2.2.2.1 (by unfold vp_in; decide) dL_law_3074 ?_
  refine W.eq (g2 := F0 m 3075 ls [.int (xs 1), .ref xa]) rfl ?_
  refine lv_aload_n hx hb dL_law_3075 rfl (lv_at hl 5 rfl) ?_
  refine lv_iload hx hb dL_law_3076 (lv_at hl 0 rfl) ?_
  refine lv_iconst (v := 2) hx hb dL_law_3078 (by decide) ?_
  refine lv_iadd hx hb dL_law_3079 ?_
  refine W.eq (g2 := F0 m 3080 ls [.int 2, .ref b, .int (xs 1), .ref xa]) (by first | rfl | decide) ?_
  refine va_sld hx hb hX hbl hbA hh.2.2.2.1 (by unfold vp_in; decide) dL_law_3080 ?_
  refine W.eq (g2 := F0 m 3081 ls [.int (xs 2), .int (xs 1), .ref xa]) rfl ?_
  refine lv_aload_n hx hb dL_law_3081 rfl (lv_at hl 2 rfl) ?_
  refine k_callSX (wr := [(ma, .inr (16, [.int 0, .ref m1, .ref m2, .ref m3, .ref m4, .ref m5, .ref m6, .ref m7, .ref m8, .int 0, .int 0])), (m3, .inr (4, [.int 0, .ref e0.1, .int 0]))]) (rest := []) (own := RL) ⟨hx, hb, hml, hown, hts⟩ (c_L_earned_bad1 l hst D e0 xa x1 x2 x3 x4 x5 ((xs 1)) ((xs 2)) o1 z3 ((fun _ => 0)) h) (vx_cwSW 4 hts gl_S_c_L_earned_bad1 rfl rfl rfl (by decide +kernel) ⟨Nat.le_of_ble_eq_true rfl, Nat.le_of_ble_eq_true rfl⟩) hh [0, 3] [1, 2] [0] rfl rfl rfl rfl (by decide) rfl rfl hl rfl (Nat.le_of_ble_eq_true rfl) dL_law_3082 ⟨Nat.le_of_ble_eq_true rfl, (Nat.le_of_ble_eq_true rfl)⟩ (fun _ _ _ _ _ h => h.elim) (fun v w ty1 H locs hp hh => ?_)
  obtain ⟨rfl, rfl, rfl⟩ := hp
  have hh : kH D kStr e0 A s H [(ma, .inr (16, [.int 0, .ref m1, .ref m2, .ref m3, .ref m4, .ref m5, .ref m6, .ref m7, .ref m8, .int 0, .int 0])), (m3, .inr (4, [.int 0, .ref e0.1, .int 0])), (o1, .inl (z3, 1, .inr (.inl (fun _ => 0))))] [(z3, .long), (z3, .long)] _ := hh
  refine W.eq (g2 := F0 m 3085 ls [.int 1]) (by first | rfl | decide) ?_
  refine lv_istore (lv' := [(6, .int 1), (5, .int 0), (4, .ref o2), (3, .ref o1), (2, .ref ma), (1, .ref xa), (0, .ref b)]) hx hb dL_law_3085 hl (by decide) rfl (fun ls hl => ?_)
  refine lv_aload_n hx hb dL_law_3087 rfl (lv_at hl 4 rfl) ?_
  refine lv_aload_n hx hb dL_law_3088 rfl (lv_at hl 6 rfl) ?_
  refine lv_iload hx hb dL_law_3089 (lv_at hl 1 rfl) ?_
  refine lv_iconst (v := 1) hx hb dL_law_3091 (by decide) ?_
  refine lv_iadd hx hb dL_law_3092 ?_
  refine W.eq (g2 := F0 m 3093 ls [.int 1, .ref b, .ref ma]) (by first | rfl | decide) ?_
  refine va_sld hx hb hX hbl hbA hh.2.2.2.1 (by unfold vp_in; decide) dL_law_3093 ?_
  refine W.eq (g2 := F0 m 3094 ls [.int (xs 1), .ref ma]) rfl ?_
  refine lv_aload_n hx hb dL_law_3094 rfl (lv_at hl 6 rfl) ?_
  refine lv_iload hx hb dL_law_3095 (lv_at hl 1 rfl) ?_
  refine lv_iconst (v := 2) hx hb dL_law_3097 (by decide) ?_
  refine lv_iadd hx hb dL_law_3098 ?_
  refine W.eq (g2 := F0 m 3099 ls [.int 2, .ref b, .int (xs 1), .ref ma]) (by first | rfl | decide) ?_
  refine va_sld hx hb hX hbl hbA hh.2.2.2.1 (by unfold vp_in; decide) dL_law_3099 ?_
  refine W.eq (g2 := F0 m 3100 ls [.int (xs 2), .int (xs 1), .ref ma]) rfl ?_
  refine k_callV (C := RX11) (T := TX11) (N := 11) (ci := 16) (q0 := 0) (wr := [(o1, .inl (z3, 1, .inr (.inl (fun _ => 0))))]) (rest := []) (own := RL) ⟨hx, hb, hml, hown, hts⟩ (c_X11_earned_bad1 l hst D e0 ma 0 m1 m2 m3 m4 m5 m6 m7 m8 ((xs 1)) ((xs 2)) h) (cwV 2 hts gl_V_c_X11_earned_bad1 rfl rfl rfl (by decide +kernel) ⟨Nat.le_of_ble_eq_true rfl, Nat.le_of_ble_eq_true rfl⟩) hh rfl rfl [0, 1] [2] [] rfl rfl rfl rfl (by decide) rfl rfl hl rfl (Nat.le_of_ble_eq_true rfl) dL_law_3100 ⟨Nat.le_of_ble_eq_true rfl, (Nat.le_of_ble_eq_true rfl)⟩ (fun _ _ _ _ _ h => h.elim) (fun v w ty1 H locs hp hh => ?_)
  obtain ⟨rfl, rfl, rfl⟩ := hp
  have hh : kH D kStr e0 A s H [(o1, .inl (z3, 1, .inr (.inl (fun _ => 0)))), (ma, .inr (16, [.int 1, .ref m1, .ref m2, .ref m3, .ref m4, .ref m5, .ref m6, .ref m7, .ref m8, .int 0, .int 0]))] [(z3, .long), (z3, .long)] _ := hh
  refine W.eq (g2 := F0 m 3103 ls [.long 0]) (by first | rfl | decide) ?_
  refine lv_lstore (lv' := [(7, .long 0), (6, .int 1), (5, .int 0), (4, .ref o2), (3, .ref o1), (2, .ref ma), (1, .ref xa), (0, .ref b)]) hx hb dL_law_3103 hl (by decide) rfl (fun ls hl => ?_)
  refine lv_aload_n hx hb dL_law_3105 rfl (lv_at hl 5 rfl) ?_
  refine k_callV (C := RX11) (T := TX11) (N := 11) (ci := 16) (q0 := 1) (wr := [(o1, .inl (z3, 1, .inr (.inl (fun _ => 0))))]) (rest := []) (own := RL) ⟨hx, hb, hml, hown, hts⟩ (c_X11_thrown l hst D e0 ma 1 m1 m2 m3 m4 m5 m6 m7 m8 ) (cwV 0 hts gl_V_c_X11_thrown rfl rfl rfl (by decide +kernel) ⟨Nat.le_of_ble_eq_true rfl, Nat.le_of_ble_eq_true rfl⟩) hh rfl rfl [1] [0] [] rfl rfl rfl rfl (by decide) rfl rfl hl rfl (Nat.le_of_ble_eq_true rfl) dL_law_3106 ⟨Nat.le_of_ble_eq_true rfl, (Nat.le_of_ble_eq_true rfl)⟩ (fun _ _ _ _ _ h => h.elim) (fun v w ty1 H locs hp hh => ?_)
  obtain ⟨rfl, rfl, rfl⟩ := hp
  have hh : kH D kStr e0 A s H [(o1, .inl (z3, 1, .inr (.inl (fun _ => 0)))), (ma, .inr (16, [.int 1, .ref m1, .ref m2, .ref m3, .ref m4, .ref m5, .ref m6, .ref m7, .ref m8, .int 0, .int 0]))] [(z3, .long), (z3, .long)] _ := hh
  refine W.eq (g2 := F0 m 3109 ls [.int 1]) (by first | rfl | decide) ?_
  refine lv_iload hx hb dL_law_3109 (lv_at hl 1 rfl) ?_
  refine lv_icmp_eq (tgt := 3116) hx hb dL_law_3111 (by decide) (fun _ => ?_) (fun c_3111 => absurd (by decide) c_3111)
  refine lv_iload hx hb dL_law_3116 (lv_at hl 1 rfl) ?_
  refine lv_if_ne (tgt := 3132) hx hb dL_law_3118 (by decide) (fun _ => ?_) (fun c_3118 => absurd c_3118 (by decide))
  refine lv_goto (tgt := 3429) hx hb dL_law_3132 (by decide) ?_
  refine W.widen (k := 1000) (n := 100000) (Nat.le_of_ble_eq_true rfl) (Nat.le_of_ble_eq_true rfl) ?_
  exact kk _ _ _ hh.2.2.2.1 (lv_sub hl [7, 2] rfl)
set_option maxHeartbeats 4000000 in
set_option maxRecDepth 100000 in
theorem law_43_bad2 {p : Program} {l : Launch} {e : Env} {s : State} {m : MethodId} {below : List Frame} {meth : Method} {c : Code} {Q : State → Prop} {b : Nat} {xs : Nat → Int32} {D : va_G} {e0 : kE} {A : Nat → Prop} (hst : l.stackTraces = false) (hx : p.tables.exec = Jvm.exec) (hb : c.code = cL_law) (hml : c.maxLocals = 9) (hts : ∀ w ∈ lw_tbl, w.before #[Value.ref b] s = true) (hown : s.vm.findClass RL = some m.cls) (hX : va_X b 5 xs s s.heap) (hbl : b < s.heap.size) (hbA : ¬ A b) {xa x1 x2 x3 x4 x5 g1 g2 g3 g4 h1 h2 h3 h4 h5 ma m1 m2 m3 m4 m5 m6 m7 m8 o1 o2 : Nat} {z1 z2 z3 z4 : ClassId} (h : 0 ≤ xs 1 ∧ xs 1 ≤ 7) (h2 : ¬ (1 ≤ xs 2 ∧ xs 2 ≤ 999)) {H : Heap} {locs : List Loc} {ls : Array Slot} (hh : kH D kStr e0 A s H (lwW e0 xa x1 x2 x3 x4 x5 g1 g2 g3 g4 h1 h2 h3 h4 h5 ma m1 m2 m3 m4 m5 m6 m7 m8 o1 o2 z1 z2 z3 z4) (lwT z1 z2 z3 z4) locs) (hl : lv_has ls 9 (lwL b xa ma o1 o2)) (kk : lwK p l e s m below meth c Q b A) : W p l e room_1 s m #[Value.ref b] below meth c H locs 100 10000 Q (F0 m 3068 ls []) := by
  have hh : kH D kStr e0 A s H [(xa, .inr (11, [.ref x1, .int 0, .ref x2, .int 0, .ref x3, .ref x4, .ref x5, .int 0])), (ma, .inr (16, [.int 0, .ref m1, .ref m2, .ref m3, .ref m4, .ref m5, .ref m6, .ref m7, .ref m8, .int 0, .int 0])), (m3, .inr (4, [.int 0, .ref e0.1, .int 0])), (o1, .inl (z3, 1, .inr (.inl (fun _ => 0))))] [(z3, .long)] _ := hh.sub [0, 5, 8, 14] [2] rfl rfl rfl
  have hl : lv_has ls 9 [(5, .int 0), (4, .ref o2), (3, .ref o1), (2, .ref ma), (1, .ref xa), (0, .ref b)] := hl
  refine lv_aload_n hx hb dL_law_3068 rfl (lv_at hl 4 rfl) ?_
  refine lv_aload_n hx hb dL_law_3069 rfl (lv_at hl 5 rfl) ?_
  refine lv_iload hx hb dL_law_3070 (lv_at hl 0 rfl) ?_
  refine lv_iconst (v := 1) hx hb dL_law_3072 (by decide) ?_
  refine lv_iadd hx hb dL_law_3073 ?_
  refine W.eq (g2 := F0 m 3074 ls [.int 1, .ref b, .ref xa]) (by first | rfl | decide) ?_
  refine va_sld hx hb hX hbl hbA hh.2.2.2.1 (by unfold vp_in; decide) dL_law_3074 ?_
  refine W.eq (g2 := F0 m 3075 ls [.int (xs 1), .ref xa]) rfl ?_
  refine lv_aload_n hx hb dL_law_3075 rfl (lv_at hl 5 rfl) ?_
  refine lv_iload hx hb dL_law_3076 (lv_at hl 0 rfl) ?_
  refine lv_iconst (v := 2) hx hb dL_law_3078 (by decide) ?_
  refine lv_iadd hx hb dL_law_3079 ?_
  refine W.eq (g2 := F0 m 3080 ls [.int 2, .ref b, .int (xs 1), .ref xa]) (by first | rfl | decide) ?_
  refine va_sld hx hb hX hbl hbA hh.2.2.2.1 (by unfold vp_in; decide) dL_law_3080 ?_
  refine W.eq (g2 := F0 m 3081 ls [.int (xs 2), .int (xs 1), .ref xa]) rfl ?_
  refine lv_aload_n hx hb dL_law_3081 rfl (lv_at hl 2 rfl) ?_
  refine k_callSX (wr := [(ma, .inr (16, [.int 0, .ref m1, .ref m2, .ref m3, .ref m4, .ref m5, .ref m6, .ref m7, .ref m8, .int 0, .int 0])), (m3, .inr (4, [.int 0, .ref e0.1, .int 0]))]) (rest := []) (own := RL) ⟨hx, hb, hml, hown, hts⟩ (c_L_earned_bad2 l hst D e0 xa x1 x2 x3 x4 x5 ((xs 1)) ((xs 2)) o1 z3 ((fun _ => 0)) h h2) (vx_cwSW 4 hts gl_S_c_L_earned_bad2 rfl rfl rfl (by decide +kernel) ⟨Nat.le_of_ble_eq_true rfl, Nat.le_of_ble_eq_true rfl⟩) hh [0, 3] [1, 2] [0] rfl rfl rfl rfl (by decide) rfl rfl hl rfl (Nat.le_of_ble_eq_true rfl) dL_law_3082 ⟨Nat.le_of_ble_eq_true rfl, (Nat.le_of_ble_eq_true rfl)⟩ (fun _ _ _ _ _ h => h.elim) (fun v w ty1 H locs hp hh => ?_)
  obtain ⟨rfl, rfl, rfl⟩ := hp
  have hh : kH D kStr e0 A s H [(ma, .inr (16, [.int 0, .ref m1, .ref m2, .ref m3, .ref m4, .ref m5, .ref m6, .ref m7, .ref m8, .int 0, .int 0])), (m3, .inr (4, [.int 0, .ref e0.1, .int 0])), (o1, .inl (z3, 1, .inr (.inl (fun _ => 0))))] [(z3, .long), (z3, .long)] _ := hh
  refine W.eq (g2 := F0 m 3085 ls [.int 1]) (by first | rfl | decide) ?_
  refine lv_istore (lv' := [(6, .int 1), (5, .int 0), (4, .ref o2), (3, .ref o1), (2, .ref ma), (1, .ref xa), (0, .ref b)]) hx hb dL_law_3085 hl (by decide) rfl (fun ls hl => ?_)
  refine lv_aload_n hx hb dL_law_3087 rfl (lv_at hl 4 rfl) ?_
  refine lv_aload_n hx hb dL_law_3088 rfl (lv_at hl 6 rfl) ?_
  refine lv_iload hx hb dL_law_3089 (lv_at hl 1 rfl) ?_
  refine lv_iconst (v := 1) hx hb dL_law_3091 (by decide) ?_
  refine lv_iadd hx hb dL_law_3092 ?_
  refine W.eq (g2 := F0 m 3093 ls [.int 1, .ref b, .ref ma]) (by first | rfl | decide) ?_
  refine va_sld hx hb hX hbl hbA hh.2.2.2.1 (by unfold vp_in; decide) dL_law_3093 ?_
  refine W.eq (g2 := F0 m 3094 ls [.int (xs 1), .ref ma]) rfl ?_
  refine lv_aload_n hx hb dL_law_3094 rfl (lv_at hl 6 rfl) ?_
  refine lv_iload hx hb dL_law_3095 (lv_at hl 1 rfl) ?_
  refine lv_iconst (v := 2) hx hb dL_law_3097 (by decide) ?_
  refine lv_iadd hx hb dL_law_3098 ?_
  refine W.eq (g2 := F0 m 3099 ls [.int 2, .ref b, .int (xs 1), .ref ma]) (by first | rfl | decide) ?_
  refine va_sld hx hb hX hbl hbA hh.2.2.2.1 (by unfold vp_in; decide) dL_law_3099 ?_
  refine W.eq (g2 := F0 m 3100 ls [.int (xs 2), .int (xs 1), .ref ma]) rfl ?_
  refine k_callV (C := RX11) (T := TX11) (N := 11) (ci := 16) (q0 := 0) (wr := [(o1, .inl (z3, 1, .inr (.inl (fun _ => 0))))]) (rest := []) (own := RL) ⟨hx, hb, hml, hown, hts⟩ (c_X11_earned_bad2 l hst D e0 ma 0 m1 m2 m3 m4 m5 m6 m7 m8 ((xs 1)) ((xs 2)) h h2) (cwV 2 hts gl_V_c_X11_earned_bad2 rfl rfl rfl (by decide +kernel) ⟨Nat.le_of_ble_eq_true rfl, Nat.le_of_ble_eq_true rfl⟩) hh rfl rfl [0, 1] [2] [] rfl rfl rfl rfl (by decide) rfl rfl hl rfl (Nat.le_of_ble_eq_true rfl) dL_law_3100 ⟨Nat.le_of_ble_eq_true rfl, (Nat.le_of_ble_eq_true rfl)⟩ (fun _ _ _ _ _ h => h.elim) (fun v w ty1 H locs hp hh => ?_)
  obtain ⟨rfl, rfl, rfl⟩ := hp
  have hh : kH D kStr e0 A s H [(o1, .inl (z3, 1, .inr (.inl (fun _ => 0)))), (ma, .inr (16, [.int 1, .ref m1, .ref m2, .ref m3, .ref m4, .ref m5, .ref m6, .ref m7, .ref m8, .int 0, .int 0]))] [(z3, .long), (z3, .long)] _ := hh
  refine W.eq (g2 := F0 m 3103 ls [.long 0]) (by first | rfl | decide) ?_
  refine lv_lstore (lv' := [(7, .long 0), (6, .int 1), (5, .int 0), (4, .ref o2), (3, .ref o1), (2, .ref ma), (1, .ref xa), (0, .ref b)]) hx hb dL_law_3103 hl (by decide) rfl (fun ls hl => ?_)
  refine lv_aload_n hx hb dL_law_3105 rfl (lv_at hl 5 rfl) ?_
  refine k_callV (C := RX11) (T := TX11) (N := 11) (ci := 16) (q0 := 1) (wr := [(o1, .inl (z3, 1, .inr (.inl (fun _ => 0))))]) (rest := []) (own := RL) ⟨hx, hb, hml, hown, hts⟩ (c_X11_thrown l hst D e0 ma 1 m1 m2 m3 m4 m5 m6 m7 m8 ) (cwV 0 hts gl_V_c_X11_thrown rfl rfl rfl (by decide +kernel) ⟨Nat.le_of_ble_eq_true rfl, Nat.le_of_ble_eq_true rfl⟩) hh rfl rfl [1] [0] [] rfl rfl rfl rfl (by decide) rfl rfl hl rfl (Nat.le_of_ble_eq_true rfl) dL_law_3106 ⟨Nat.le_of_ble_eq_true rfl, (Nat.le_of_ble_eq_true rfl)⟩ (fun _ _ _ _ _ h => h.elim) (fun v w ty1 H locs hp hh => ?_)
  obtain ⟨rfl, rfl, rfl⟩ := hp
  have hh : kH D kStr e0 A s H [(o1, .inl (z3, 1, .inr (.inl (fun _ => 0)))), (ma, .inr (16, [.int 1, .ref m1, .ref m2, .ref m3, .ref m4, .ref m5, .ref m6, .ref m7, .ref m8, .int 0, .int 0]))] [(z3, .long), (z3, .long)] _ := hh
  refine W.eq (g2 := F0 m 3109 ls [.int 1]) (by first | rfl | decide) ?_
  refine lv_iload hx hb dL_law_3109 (lv_at hl 1 rfl) ?_
  refine lv_icmp_eq (tgt := 3116) hx hb dL_law_3111 (by decide) (fun _ => ?_) (fun c_3111 => absurd (by decide) c_3111)
  refine lv_iload hx hb dL_law_3116 (lv_at hl 1 rfl) ?_
  refine lv_if_ne (tgt := 3132) hx hb dL_law_3118 (by decide) (fun _ => ?_) (fun c_3118 => absurd c_3118 (by decide))
  refine lv_goto (tgt := 3429) hx hb dL_law_3132 (by decide) ?_
  refine W.widen (k := 1000) (n := 100000) (Nat.le_of_ble_eq_true rfl) (Nat.le_of_ble_eq_true rfl) ?_
  exact kk _ _ _ hh.2.2.2.1 (lv_sub hl [7, 2] rfl)
set_option maxHeartbeats 4000000 in
set_option maxRecDepth 100000 in
theorem law_0 {p : Program} {l : Launch} {e : Env} {s : State} {m : MethodId} {below : List Frame} {meth : Method} {c : Code} {Q : State → Prop} {b : Nat} {xs : Nat → Int32} {D : va_G} {e0 : kE} {A : Nat → Prop} (hst : l.stackTraces = false) (hx : p.tables.exec = Jvm.exec) (hb : c.code = cL_law) (hml : c.maxLocals = 9) (hts : ∀ w ∈ lw_tbl, w.before #[Value.ref b] s = true) (hown : s.vm.findClass RL = some m.cls) (hX : va_X b 5 xs s s.heap) (hbl : b < s.heap.size) (hbA : ¬ A b) {xa x1 x2 x3 x4 x5 g1 g2 g3 g4 h1 h2 h3 h4 h5 ma m1 m2 m3 m4 m5 m6 m7 m8 o1 o2 : Nat} {z1 z2 z3 z4 : ClassId}  {H : Heap} {locs : List Loc} {ls : Array Slot} (hh : kH D kStr e0 A s H (lwW e0 xa x1 x2 x3 x4 x5 g1 g2 g3 g4 h1 h2 h3 h4 h5 ma m1 m2 m3 m4 m5 m6 m7 m8 o1 o2 z1 z2 z3 z4) (lwT z1 z2 z3 z4) locs) (hl : lv_has ls 9 (lwL b xa ma o1 o2)) (kk : lwK p l e s m below meth c Q b A) : W p l e room_1 s m #[Value.ref b] below meth c H locs 100 10000 Q (F0 m 260 ls []) := by
  have hh : kH D kStr e0 A s H [(xa, .inr (11, [.ref x1, .int 0, .ref x2, .int 0, .ref x3, .ref x4, .ref x5, .int 0])), (x1, .inl (z1, 6, .inr (.inr (.inr (.inr (fun _ => none)))))), (ma, .inr (16, [.int 0, .ref m1, .ref m2, .ref m3, .ref m4, .ref m5, .ref m6, .ref m7, .ref m8, .int 0, .int 0])), (m1, .inr (4, [.int 0, .ref e0.1, .int 0])), (o1, .inl (z3, 1, .inr (.inl (fun _ => 0))))] [(z1, .object "Segueworks$Reel"), (z3, .long)] _ := hh.sub [0, 3, 5, 6, 14] [0, 2] rfl rfl rfl
  have hl : lv_has ls 9 [(5, .int 0), (4, .ref o2), (3, .ref o1), (2, .ref ma), (1, .ref xa), (0, .ref b)] := hl
  refine lv_aload_n hx hb dL_law_260 rfl (lv_at hl 4 rfl) ?_
  refine lv_aload_n hx hb dL_law_261 rfl (lv_at hl 2 rfl) ?_
  refine k_callSX (wr := [(ma, .inr (16, [.int 0, .ref m1, .ref m2, .ref m3, .ref m4, .ref m5, .ref m6, .ref m7, .ref m8, .int 0, .int 0])), (m1, .inr (4, [.int 0, .ref e0.1, .int 0]))]) (rest := []) (own := RL) ⟨hx, hb, hml, hown, hts⟩ (c_L_reel l hst D e0 xa x1 x2 x3 x4 x5 z1 ((fun _ => none)) o1 z3 ((fun _ => 0)) ) (vx_cwSW 2 hts gl_S_c_L_reel rfl rfl rfl (by decide +kernel) ⟨Nat.le_of_ble_eq_true rfl, Nat.le_of_ble_eq_true rfl⟩) hh [0, 1, 4] [2, 3] [0, 1] rfl rfl rfl rfl (by decide) rfl rfl hl rfl (Nat.le_of_ble_eq_true rfl) dL_law_262 ⟨Nat.le_of_ble_eq_true rfl, (Nat.le_of_ble_eq_true rfl)⟩ (fun _ _ _ _ _ h => h.elim) (fun v w ty1 H locs hp hh => ?_)
  obtain ⟨rfl, rfl, rfl⟩ := hp
  have hh : kH D kStr e0 A s H [(ma, .inr (16, [.int 0, .ref m1, .ref m2, .ref m3, .ref m4, .ref m5, .ref m6, .ref m7, .ref m8, .int 0, .int 0])), (m1, .inr (4, [.int 0, .ref e0.1, .int 0])), (o1, .inl (z3, 1, .inr (.inl (vp_updL ((fun _ => 0)) (0 : Int32).toNatClampNeg 0))))] [(z1, .object "Segueworks$Reel"), (z3, .long), (z3, .long)] _ := hh
  refine W.eq (g2 := F0 m 265 ls [.int 0]) (by first | rfl | decide) ?_
  refine lv_istore (lv' := [(6, .int 0), (5, .int 0), (4, .ref o2), (3, .ref o1), (2, .ref ma), (1, .ref xa), (0, .ref b)]) hx hb dL_law_265 hl (by decide) rfl (fun ls hl => ?_)
  refine lv_aload_n hx hb dL_law_267 rfl (lv_at hl 4 rfl) ?_
  refine k_callV (C := RX11) (T := TX11) (N := 11) (ci := 16) (q0 := 0) (wr := [(o1, .inl (z3, 1, .inr (.inl (vp_updL ((fun _ => 0)) (0 : Int32).toNatClampNeg 0))))]) (rest := []) (own := RL) ⟨hx, hb, hml, hown, hts⟩ (c_X11_reel l hst D e0 ma 0 m1 m2 m3 m4 m5 m6 m7 m8 ) (cwV 0 hts gl_V_c_X11_reel rfl rfl rfl (by decide +kernel) ⟨Nat.le_of_ble_eq_true rfl, Nat.le_of_ble_eq_true rfl⟩) hh rfl rfl [0, 1] [2] [] rfl rfl rfl rfl (by decide) rfl rfl hl rfl (Nat.le_of_ble_eq_true rfl) dL_law_268 ⟨Nat.le_of_ble_eq_true rfl, (Nat.le_of_ble_eq_true rfl)⟩ (fun _ _ _ _ _ h => h.elim) (fun v w ty1 H locs hp hh => ?_)
  obtain ⟨rfl, rfl, rfl⟩ := hp
  have hh : kH D kStr e0 A s H [(o1, .inl (z3, 1, .inr (.inl (vp_updL ((fun _ => 0)) (0 : Int32).toNatClampNeg 0)))), (ma, .inr (16, [.int 0, .ref m1, .ref m2, .ref m3, .ref m4, .ref m5, .ref m6, .ref m7, .ref m8, .int 0, .int 0]))] [(z1, .object "Segueworks$Reel"), (z3, .long), (z3, .long)] _ := hh
  refine W.eq (g2 := F0 m 271 ls [.int 0]) (by first | rfl | decide) ?_
  refine lv_istore (lv' := [(7, .int 0), (6, .int 0), (5, .int 0), (4, .ref o2), (3, .ref o1), (2, .ref ma), (1, .ref xa), (0, .ref b)]) hx hb dL_law_271 hl (by decide) rfl (fun ls hl => ?_)
  refine lv_aload_n hx hb dL_law_273 rfl (lv_at hl 5 rfl) ?_
  refine k_callV (C := RX11) (T := TX11) (N := 11) (ci := 16) (q0 := 1) (wr := [(o1, .inl (z3, 1, .inr (.inl (vp_updL ((fun _ => 0)) (0 : Int32).toNatClampNeg 0))))]) (rest := []) (own := RL) ⟨hx, hb, hml, hown, hts⟩ (c_X11_thrown l hst D e0 ma 0 m1 m2 m3 m4 m5 m6 m7 m8 ) (cwV 0 hts gl_V_c_X11_thrown rfl rfl rfl (by decide +kernel) ⟨Nat.le_of_ble_eq_true rfl, Nat.le_of_ble_eq_true rfl⟩) hh rfl rfl [1] [0] [] rfl rfl rfl rfl (by decide) rfl rfl hl rfl (Nat.le_of_ble_eq_true rfl) dL_law_274 ⟨Nat.le_of_ble_eq_true rfl, (Nat.le_of_ble_eq_true rfl)⟩ (fun _ _ _ _ _ h => h.elim) (fun v w ty1 H locs hp hh => ?_)
  obtain ⟨rfl, rfl, rfl⟩ := hp
  have hh : kH D kStr e0 A s H [(o1, .inl (z3, 1, .inr (.inl (vp_updL ((fun _ => 0)) (0 : Int32).toNatClampNeg 0)))), (ma, .inr (16, [.int 0, .ref m1, .ref m2, .ref m3, .ref m4, .ref m5, .ref m6, .ref m7, .ref m8, .int 0, .int 0]))] [(z1, .object "Segueworks$Reel"), (z3, .long), (z3, .long)] _ := hh
  refine W.eq (g2 := F0 m 277 ls [.int 0]) (by first | rfl | decide) ?_
  refine lv_iload hx hb dL_law_277 (lv_at hl 1 rfl) ?_
  refine lv_icmp_eq (tgt := 284) hx hb dL_law_279 (by decide) (fun _ => ?_) (fun c_279 => absurd (by decide) c_279)
  refine lv_iload hx hb dL_law_284 (lv_at hl 1 rfl) ?_
  refine lv_if_ne (tgt := 301) hx hb dL_law_286 (by decide) (fun c_286 => absurd (by decide) c_286) (fun _ => ?_)
  refine lv_aload_n hx hb dL_law_289 rfl (lv_at hl 4 rfl) ?_
  refine lv_iconst (v := 0) hx hb dL_law_290 (by decide) ?_
  refine k_lald (v := 0) hx hb hh 0 1 rfl rfl (by unfold vp_in; decide) (by first | rfl | simp [vp_updL]) dL_law_291 ?_
  refine lv_iload hx hb dL_law_292 (lv_at hl 0 rfl) ?_
  refine lv_i2l (v := 0) hx hb dL_law_294 (by decide) ?_
  refine W.lcmp hx hb dL_law_295 ?_
  refine W.eq (g2 := F0 m 296 ls [.int 0]) (by rw [show lg_cmp (0 : Int64) (0 : Int64) = 0 from by decide]) ?_
  refine lv_if_eq (tgt := 301) hx hb dL_law_296 (by decide) (fun _ => ?_) (fun c_296 => absurd (by decide) c_296)
  refine lv_goto (tgt := 3429) hx hb dL_law_301 (by decide) ?_
  refine W.widen (k := 1000) (n := 100000) (Nat.le_of_ble_eq_true rfl) (Nat.le_of_ble_eq_true rfl) ?_
  exact kk _ _ _ hh.2.2.2.1 (lv_sub hl [7, 2] rfl)
set_option maxHeartbeats 4000000 in
set_option maxRecDepth 100000 in
theorem law_5 {p : Program} {l : Launch} {e : Env} {s : State} {m : MethodId} {below : List Frame} {meth : Method} {c : Code} {Q : State → Prop} {b : Nat} {xs : Nat → Int32} {D : va_G} {e0 : kE} {A : Nat → Prop} (hst : l.stackTraces = false) (hx : p.tables.exec = Jvm.exec) (hb : c.code = cL_law) (hml : c.maxLocals = 9) (hts : ∀ w ∈ lw_tbl, w.before #[Value.ref b] s = true) (hown : s.vm.findClass RL = some m.cls) (hX : va_X b 5 xs s s.heap) (hbl : b < s.heap.size) (hbA : ¬ A b) {xa x1 x2 x3 x4 x5 g1 g2 g3 g4 h1 h2 h3 h4 h5 ma m1 m2 m3 m4 m5 m6 m7 m8 o1 o2 : Nat} {z1 z2 z3 z4 : ClassId} (n : Nat) (hn1 : 1 ≤ n) (hn : n ≤ 200) (hx1 : xs 1 = nI n) {H : Heap} {locs : List Loc} {ls : Array Slot} (hh : kH D kStr e0 A s H (lwW e0 xa x1 x2 x3 x4 x5 g1 g2 g3 g4 h1 h2 h3 h4 h5 ma m1 m2 m3 m4 m5 m6 m7 m8 o1 o2 z1 z2 z3 z4) (lwT z1 z2 z3 z4) locs) (hl : lv_has ls 9 (lwL b xa ma o1 o2)) (kk : lwK p l e s m below meth c Q b A) : W p l e room_1 s m #[Value.ref b] below meth c H locs 100 10000 Q (F0 m 600 ls []) := by
  have hh : kH D kStr e0 A s H [(xa, .inr (11, [.ref x1, .int 0, .ref x2, .int 0, .ref x3, .ref x4, .ref x5, .int 0])), (x2, .inl (z2, 24, .inr (.inr (.inr (.inr (fun _ => none)))))), (ma, .inr (16, [.int 0, .ref m1, .ref m2, .ref m3, .ref m4, .ref m5, .ref m6, .ref m7, .ref m8, .int 0, .int 0])), (m2, .inr (4, [.int 0, .ref e0.1, .int 0])), (o1, .inl (z3, 1, .inr (.inl (fun _ => 0))))] [(z2, .object "Segueworks$Piece"), (z3, .long)] _ := hh.sub [0, 4, 5, 7, 14] [1, 2] rfl rfl rfl
  have hl : lv_has ls 9 [(5, .int 0), (4, .ref o2), (3, .ref o1), (2, .ref ma), (1, .ref xa), (0, .ref b)] := hl
  refine lv_aload_n hx hb dL_law_600 rfl (lv_at hl 4 rfl) ?_
  refine lv_aload_n hx hb dL_law_601 rfl (lv_at hl 5 rfl) ?_
  refine lv_iload hx hb dL_law_602 (lv_at hl 0 rfl) ?_
  refine lv_iconst (v := 1) hx hb dL_law_604 (by decide) ?_
  refine lv_iadd hx hb dL_law_605 ?_
  refine W.eq (g2 := F0 m 606 ls [.int 1, .ref b, .ref xa]) (by first | rfl | decide) ?_
  refine va_sld hx hb hX hbl hbA hh.2.2.2.1 (by unfold vp_in; decide) dL_law_606 ?_
  refine W.eq (g2 := F0 m 607 ls [.int (nI n), .ref xa]) (by rw [← hx1]; rfl) ?_
  refine lv_aload_n hx hb dL_law_607 rfl (lv_at hl 2 rfl) ?_
  refine k_callSX (wr := [(ma, .inr (16, [.int 0, .ref m1, .ref m2, .ref m3, .ref m4, .ref m5, .ref m6, .ref m7, .ref m8, .int 0, .int 0])), (m2, .inr (4, [.int 0, .ref e0.1, .int 0]))]) (rest := []) (own := RL) ⟨hx, hb, hml, hown, hts⟩ (c_L_silence l hst D e0 xa x1 x2 x3 x4 x5 z2 ((fun _ => none)) n o1 z3 ((fun _ => 0)) hn1 hn) (vx_cwSW 3 hts gl_S_c_L_silence rfl rfl rfl (by decide +kernel) ⟨Nat.le_of_ble_eq_true rfl, Nat.le_of_ble_eq_true rfl⟩) hh [0, 1, 4] [2, 3] [0, 1] rfl rfl rfl rfl (by decide) rfl rfl hl rfl (Nat.le_of_ble_eq_true rfl) dL_law_608 ⟨Nat.le_of_ble_eq_true rfl, (Nat.le_of_ble_eq_true rfl)⟩ (fun _ _ _ _ _ h => h.elim) (fun v w ty1 H locs hp hh => ?_)
  obtain ⟨rfl, rfl, rfl⟩ := hp
  have hh : kH D kStr e0 A s H [(ma, .inr (16, [.int 0, .ref m1, .ref m2, .ref m3, .ref m4, .ref m5, .ref m6, .ref m7, .ref m8, .int 0, .int 0])), (m2, .inr (4, [.int 0, .ref e0.1, .int 0])), (o1, .inl (z3, 1, .inr (.inl (vp_updL ((fun _ => 0)) (0 : Int32).toNatClampNeg 0))))] [(z2, .object "Segueworks$Piece"), (z3, .long), (z3, .long)] _ := hh
  refine W.eq (g2 := F0 m 611 ls [.int 0]) (by first | rfl | decide) ?_
  refine lv_istore (lv' := [(6, .int 0), (5, .int 0), (4, .ref o2), (3, .ref o1), (2, .ref ma), (1, .ref xa), (0, .ref b)]) hx hb dL_law_611 hl (by decide) rfl (fun ls hl => ?_)
  refine lv_aload_n hx hb dL_law_613 rfl (lv_at hl 4 rfl) ?_
  refine lv_aload_n hx hb dL_law_614 rfl (lv_at hl 6 rfl) ?_
  refine lv_iload hx hb dL_law_615 (lv_at hl 1 rfl) ?_
  refine lv_iconst (v := 1) hx hb dL_law_617 (by decide) ?_
  refine lv_iadd hx hb dL_law_618 ?_
  refine W.eq (g2 := F0 m 619 ls [.int 1, .ref b, .ref ma]) (by first | rfl | decide) ?_
  refine va_sld hx hb hX hbl hbA hh.2.2.2.1 (by unfold vp_in; decide) dL_law_619 ?_
  refine W.eq (g2 := F0 m 620 ls [.int (nI n), .ref ma]) (by rw [← hx1]; rfl) ?_
  refine k_callV (C := RX11) (T := TX11) (N := 11) (ci := 16) (q0 := 0) (wr := [(o1, .inl (z3, 1, .inr (.inl (vp_updL ((fun _ => 0)) (0 : Int32).toNatClampNeg 0))))]) (rest := []) (own := RL) ⟨hx, hb, hml, hown, hts⟩ (c_X11_silence l hst D e0 ma 0 m1 m2 m3 m4 m5 m6 m7 m8 n hn1 hn) (cwV 1 hts gl_V_c_X11_silence rfl rfl rfl (by decide +kernel) ⟨Nat.le_of_ble_eq_true rfl, Nat.le_of_ble_eq_true rfl⟩) hh rfl rfl [0, 1] [2] [] rfl rfl rfl rfl (by decide) rfl rfl hl rfl (Nat.le_of_ble_eq_true rfl) dL_law_620 ⟨Nat.le_of_ble_eq_true rfl, (Nat.le_of_ble_eq_true rfl)⟩ (fun _ _ _ _ _ h => h.elim) (fun v w ty1 H locs hp hh => ?_)
  obtain ⟨rfl, rfl, rfl⟩ := hp
  have hh : kH D kStr e0 A s H [(o1, .inl (z3, 1, .inr (.inl (vp_updL ((fun _ => 0)) (0 : Int32).toNatClampNeg 0)))), (ma, .inr (16, [.int 0, .ref m1, .ref m2, .ref m3, .ref m4, .ref m5, .ref m6, .ref m7, .ref m8, .int 0, .int 0]))] [(z2, .object "Segueworks$Piece"), (z3, .long), (z3, .long)] _ := hh
  refine W.eq (g2 := F0 m 623 ls [.int 0]) (by first | rfl | decide) ?_
  refine lv_istore (lv' := [(7, .int 0), (6, .int 0), (5, .int 0), (4, .ref o2), (3, .ref o1), (2, .ref ma), (1, .ref xa), (0, .ref b)]) hx hb dL_law_623 hl (by decide) rfl (fun ls hl => ?_)
  refine lv_aload_n hx hb dL_law_625 rfl (lv_at hl 5 rfl) ?_
  refine k_callV (C := RX11) (T := TX11) (N := 11) (ci := 16) (q0 := 1) (wr := [(o1, .inl (z3, 1, .inr (.inl (vp_updL ((fun _ => 0)) (0 : Int32).toNatClampNeg 0))))]) (rest := []) (own := RL) ⟨hx, hb, hml, hown, hts⟩ (c_X11_thrown l hst D e0 ma 0 m1 m2 m3 m4 m5 m6 m7 m8 ) (cwV 0 hts gl_V_c_X11_thrown rfl rfl rfl (by decide +kernel) ⟨Nat.le_of_ble_eq_true rfl, Nat.le_of_ble_eq_true rfl⟩) hh rfl rfl [1] [0] [] rfl rfl rfl rfl (by decide) rfl rfl hl rfl (Nat.le_of_ble_eq_true rfl) dL_law_626 ⟨Nat.le_of_ble_eq_true rfl, (Nat.le_of_ble_eq_true rfl)⟩ (fun _ _ _ _ _ h => h.elim) (fun v w ty1 H locs hp hh => ?_)
  obtain ⟨rfl, rfl, rfl⟩ := hp
  have hh : kH D kStr e0 A s H [(o1, .inl (z3, 1, .inr (.inl (vp_updL ((fun _ => 0)) (0 : Int32).toNatClampNeg 0)))), (ma, .inr (16, [.int 0, .ref m1, .ref m2, .ref m3, .ref m4, .ref m5, .ref m6, .ref m7, .ref m8, .int 0, .int 0]))] [(z2, .object "Segueworks$Piece"), (z3, .long), (z3, .long)] _ := hh
  refine W.eq (g2 := F0 m 629 ls [.int 0]) (by first | rfl | decide) ?_
  refine lv_iload hx hb dL_law_629 (lv_at hl 1 rfl) ?_
  refine lv_icmp_eq (tgt := 636) hx hb dL_law_631 (by decide) (fun _ => ?_) (fun c_631 => absurd (by decide) c_631)
  refine lv_iload hx hb dL_law_636 (lv_at hl 1 rfl) ?_
  refine lv_if_ne (tgt := 653) hx hb dL_law_638 (by decide) (fun c_638 => absurd (by decide) c_638) (fun _ => ?_)
  refine lv_aload_n hx hb dL_law_641 rfl (lv_at hl 4 rfl) ?_
  refine lv_iconst (v := 0) hx hb dL_law_642 (by decide) ?_
  refine k_lald (v := 0) hx hb hh 0 1 rfl rfl (by unfold vp_in; decide) (by first | rfl | simp [vp_updL]) dL_law_643 ?_
  refine lv_iload hx hb dL_law_644 (lv_at hl 0 rfl) ?_
  refine lv_i2l (v := 0) hx hb dL_law_646 (by decide) ?_
  refine W.lcmp hx hb dL_law_647 ?_
  refine W.eq (g2 := F0 m 648 ls [.int 0]) (by rw [show lg_cmp (0 : Int64) (0 : Int64) = 0 from by decide]) ?_
  refine lv_if_eq (tgt := 653) hx hb dL_law_648 (by decide) (fun _ => ?_) (fun c_648 => absurd (by decide) c_648)
  refine lv_goto (tgt := 3429) hx hb dL_law_653 (by decide) ?_
  refine W.widen (k := 1000) (n := 100000) (Nat.le_of_ble_eq_true rfl) (Nat.le_of_ble_eq_true rfl) ?_
  exact kk _ _ _ hh.2.2.2.1 (lv_sub hl [7, 2] rfl)
set_option maxHeartbeats 4000000 in
set_option maxRecDepth 100000 in
theorem law_5_bad {p : Program} {l : Launch} {e : Env} {s : State} {m : MethodId} {below : List Frame} {meth : Method} {c : Code} {Q : State → Prop} {b : Nat} {xs : Nat → Int32} {D : va_G} {e0 : kE} {A : Nat → Prop} (hst : l.stackTraces = false) (hx : p.tables.exec = Jvm.exec) (hb : c.code = cL_law) (hml : c.maxLocals = 9) (hts : ∀ w ∈ lw_tbl, w.before #[Value.ref b] s = true) (hown : s.vm.findClass RL = some m.cls) (hX : va_X b 5 xs s s.heap) (hbl : b < s.heap.size) (hbA : ¬ A b) {xa x1 x2 x3 x4 x5 g1 g2 g3 g4 h1 h2 h3 h4 h5 ma m1 m2 m3 m4 m5 m6 m7 m8 o1 o2 : Nat} {z1 z2 z3 z4 : ClassId} (h : ¬ (1 ≤ xs 1 ∧ xs 1 ≤ 200)) {H : Heap} {locs : List Loc} {ls : Array Slot} (hh : kH D kStr e0 A s H (lwW e0 xa x1 x2 x3 x4 x5 g1 g2 g3 g4 h1 h2 h3 h4 h5 ma m1 m2 m3 m4 m5 m6 m7 m8 o1 o2 z1 z2 z3 z4) (lwT z1 z2 z3 z4) locs) (hl : lv_has ls 9 (lwL b xa ma o1 o2)) (kk : lwK p l e s m below meth c Q b A) : W p l e room_1 s m #[Value.ref b] below meth c H locs 100 10000 Q (F0 m 600 ls []) := by
  have hh : kH D kStr e0 A s H [(xa, .inr (11, [.ref x1, .int 0, .ref x2, .int 0, .ref x3, .ref x4, .ref x5, .int 0])), (ma, .inr (16, [.int 0, .ref m1, .ref m2, .ref m3, .ref m4, .ref m5, .ref m6, .ref m7, .ref m8, .int 0, .int 0])), (o1, .inl (z3, 1, .inr (.inl (fun _ => 0))))] [(z3, .long)] _ := hh.sub [0, 5, 14] [2] rfl rfl rfl
  have hl : lv_has ls 9 [(5, .int 0), (4, .ref o2), (3, .ref o1), (2, .ref ma), (1, .ref xa), (0, .ref b)] := hl
  refine lv_aload_n hx hb dL_law_600 rfl (lv_at hl 4 rfl) ?_
  refine lv_aload_n hx hb dL_law_601 rfl (lv_at hl 5 rfl) ?_
  refine lv_iload hx hb dL_law_602 (lv_at hl 0 rfl) ?_
  refine lv_iconst (v := 1) hx hb dL_law_604 (by decide) ?_
  refine lv_iadd hx hb dL_law_605 ?_
  refine W.eq (g2 := F0 m 606 ls [.int 1, .ref b, .ref xa]) (by first | rfl | decide) ?_
  refine va_sld hx hb hX hbl hbA hh.2.2.2.1 (by unfold vp_in; decide) dL_law_606 ?_
  refine W.eq (g2 := F0 m 607 ls [.int (xs 1), .ref xa]) rfl ?_
  refine lv_aload_n hx hb dL_law_607 rfl (lv_at hl 2 rfl) ?_
  refine k_callSX (wr := [(ma, .inr (16, [.int 0, .ref m1, .ref m2, .ref m3, .ref m4, .ref m5, .ref m6, .ref m7, .ref m8, .int 0, .int 0]))]) (rest := []) (own := RL) ⟨hx, hb, hml, hown, hts⟩ (c_L_silence_bad l hst D e0 xa x1 x2 x3 x4 x5 ((xs 1)) o1 z3 ((fun _ => 0)) h) (vx_cwSW 3 hts gl_S_c_L_silence_bad rfl rfl rfl (by decide +kernel) ⟨Nat.le_of_ble_eq_true rfl, Nat.le_of_ble_eq_true rfl⟩) hh [0, 2] [1] [0] rfl rfl rfl rfl (by decide) rfl rfl hl rfl (Nat.le_of_ble_eq_true rfl) dL_law_608 ⟨Nat.le_of_ble_eq_true rfl, (Nat.le_of_ble_eq_true rfl)⟩ (fun _ _ _ _ _ h => h.elim) (fun v w ty1 H locs hp hh => ?_)
  obtain ⟨rfl, rfl, rfl⟩ := hp
  have hh : kH D kStr e0 A s H [(ma, .inr (16, [.int 0, .ref m1, .ref m2, .ref m3, .ref m4, .ref m5, .ref m6, .ref m7, .ref m8, .int 0, .int 0])), (o1, .inl (z3, 1, .inr (.inl (fun _ => 0))))] [(z3, .long), (z3, .long)] _ := hh
  refine W.eq (g2 := F0 m 611 ls [.int 1]) (by first | rfl | decide) ?_
  refine lv_istore (lv' := [(6, .int 1), (5, .int 0), (4, .ref o2), (3, .ref o1), (2, .ref ma), (1, .ref xa), (0, .ref b)]) hx hb dL_law_611 hl (by decide) rfl (fun ls hl => ?_)
  refine lv_aload_n hx hb dL_law_613 rfl (lv_at hl 4 rfl) ?_
  refine lv_aload_n hx hb dL_law_614 rfl (lv_at hl 6 rfl) ?_
  refine lv_iload hx hb dL_law_615 (lv_at hl 1 rfl) ?_
  refine lv_iconst (v := 1) hx hb dL_law_617 (by decide) ?_
  refine lv_iadd hx hb dL_law_618 ?_
  refine W.eq (g2 := F0 m 619 ls [.int 1, .ref b, .ref ma]) (by first | rfl | decide) ?_
  refine va_sld hx hb hX hbl hbA hh.2.2.2.1 (by unfold vp_in; decide) dL_law_619 ?_
  refine W.eq (g2 := F0 m 620 ls [.int (xs 1), .ref ma]) rfl ?_
  refine k_callV (C := RX11) (T := TX11) (N := 11) (ci := 16) (q0 := 0) (wr := [(o1, .inl (z3, 1, .inr (.inl (fun _ => 0))))]) (rest := []) (own := RL) ⟨hx, hb, hml, hown, hts⟩ (c_X11_silence_bad l hst D e0 ma 0 m1 m2 m3 m4 m5 m6 m7 m8 ((xs 1)) h) (cwV 1 hts gl_V_c_X11_silence_bad rfl rfl rfl (by decide +kernel) ⟨Nat.le_of_ble_eq_true rfl, Nat.le_of_ble_eq_true rfl⟩) hh rfl rfl [0] [1] [] rfl rfl rfl rfl (by decide) rfl rfl hl rfl (Nat.le_of_ble_eq_true rfl) dL_law_620 ⟨Nat.le_of_ble_eq_true rfl, (Nat.le_of_ble_eq_true rfl)⟩ (fun _ _ _ _ _ h => h.elim) (fun v w ty1 H locs hp hh => ?_)
  obtain ⟨rfl, rfl, rfl⟩ := hp
  have hh : kH D kStr e0 A s H [(o1, .inl (z3, 1, .inr (.inl (fun _ => 0)))), (ma, .inr (16, [.int 1, .ref m1, .ref m2, .ref m3, .ref m4, .ref m5, .ref m6, .ref m7, .ref m8, .int 0, .int 0]))] [(z3, .long), (z3, .long)] _ := hh
  refine W.eq (g2 := F0 m 623 ls [.int 0]) (by first | rfl | decide) ?_
  refine lv_istore (lv' := [(7, .int 0), (6, .int 1), (5, .int 0), (4, .ref o2), (3, .ref o1), (2, .ref ma), (1, .ref xa), (0, .ref b)]) hx hb dL_law_623 hl (by decide) rfl (fun ls hl => ?_)
  refine lv_aload_n hx hb dL_law_625 rfl (lv_at hl 5 rfl) ?_
  refine k_callV (C := RX11) (T := TX11) (N := 11) (ci := 16) (q0 := 1) (wr := [(o1, .inl (z3, 1, .inr (.inl (fun _ => 0))))]) (rest := []) (own := RL) ⟨hx, hb, hml, hown, hts⟩ (c_X11_thrown l hst D e0 ma 1 m1 m2 m3 m4 m5 m6 m7 m8 ) (cwV 0 hts gl_V_c_X11_thrown rfl rfl rfl (by decide +kernel) ⟨Nat.le_of_ble_eq_true rfl, Nat.le_of_ble_eq_true rfl⟩) hh rfl rfl [1] [0] [] rfl rfl rfl rfl (by decide) rfl rfl hl rfl (Nat.le_of_ble_eq_true rfl) dL_law_626 ⟨Nat.le_of_ble_eq_true rfl, (Nat.le_of_ble_eq_true rfl)⟩ (fun _ _ _ _ _ h => h.elim) (fun v w ty1 H locs hp hh => ?_)
  obtain ⟨rfl, rfl, rfl⟩ := hp
  have hh : kH D kStr e0 A s H [(o1, .inl (z3, 1, .inr (.inl (fun _ => 0)))), (ma, .inr (16, [.int 1, .ref m1, .ref m2, .ref m3, .ref m4, .ref m5, .ref m6, .ref m7, .ref m8, .int 0, .int 0]))] [(z3, .long), (z3, .long)] _ := hh
  refine W.eq (g2 := F0 m 629 ls [.int 1]) (by first | rfl | decide) ?_
  refine lv_iload hx hb dL_law_629 (lv_at hl 1 rfl) ?_
  refine lv_icmp_eq (tgt := 636) hx hb dL_law_631 (by decide) (fun _ => ?_) (fun c_631 => absurd (by decide) c_631)
  refine lv_iload hx hb dL_law_636 (lv_at hl 1 rfl) ?_
  refine lv_if_ne (tgt := 653) hx hb dL_law_638 (by decide) (fun _ => ?_) (fun c_638 => absurd c_638 (by decide))
  refine lv_goto (tgt := 3429) hx hb dL_law_653 (by decide) ?_
  refine W.widen (k := 1000) (n := 100000) (Nat.le_of_ble_eq_true rfl) (Nat.le_of_ble_eq_true rfl) ?_
  exact kk _ _ _ hh.2.2.2.1 (lv_sub hl [7, 2] rfl)
set_option maxHeartbeats 4000000 in
set_option maxRecDepth 100000 in
theorem law_23 {p : Program} {l : Launch} {e : Env} {s : State} {m : MethodId} {below : List Frame} {meth : Method} {c : Code} {Q : State → Prop} {b : Nat} {xs : Nat → Int32} {D : va_G} {e0 : kE} {A : Nat → Prop} (hst : l.stackTraces = false) (hx : p.tables.exec = Jvm.exec) (hb : c.code = cL_law) (hml : c.maxLocals = 9) (hts : ∀ w ∈ lw_tbl, w.before #[Value.ref b] s = true) (hown : s.vm.findClass RL = some m.cls) (hX : va_X b 5 xs s s.heap) (hbl : b < s.heap.size) (hbA : ¬ A b) {xa x1 x2 x3 x4 x5 g1 g2 g3 g4 h1 h2 h3 h4 h5 ma m1 m2 m3 m4 m5 m6 m7 m8 o1 o2 : Nat} {z1 z2 z3 z4 : ClassId} (h : 1 ≤ xs 1 ∧ xs 1 ≤ 99999) {H : Heap} {locs : List Loc} {ls : Array Slot} (hh : kH D kStr e0 A s H (lwW e0 xa x1 x2 x3 x4 x5 g1 g2 g3 g4 h1 h2 h3 h4 h5 ma m1 m2 m3 m4 m5 m6 m7 m8 o1 o2 z1 z2 z3 z4) (lwT z1 z2 z3 z4) locs) (hl : lv_has ls 9 (lwL b xa ma o1 o2)) (kk : lwK p l e s m below meth c Q b A) : W p l e room_1 s m #[Value.ref b] below meth c H locs 100 10000 Q (F0 m 1744 ls []) := by
  have hh : kH D kStr e0 A s H [(xa, .inr (11, [.ref x1, .int 0, .ref x2, .int 0, .ref x3, .ref x4, .ref x5, .int 0])), (x3, .inr (9, [.ref g1, .int 0, .ref g2, .int 0, .ref g3, .ref g4])), (ma, .inr (16, [.int 0, .ref m1, .ref m2, .ref m3, .ref m4, .ref m5, .ref m6, .ref m7, .ref m8, .int 0, .int 0])), (m3, .inr (4, [.int 0, .ref e0.1, .int 0])), (o1, .inl (z3, 1, .inr (.inl (fun _ => 0))))] [(z3, .long)] _ := hh.sub [0, 1, 5, 8, 14] [2] rfl rfl rfl
  have hl : lv_has ls 9 [(5, .int 0), (4, .ref o2), (3, .ref o1), (2, .ref ma), (1, .ref xa), (0, .ref b)] := hl
  refine lv_aload_n hx hb dL_law_1744 rfl (lv_at hl 4 rfl) ?_
  refine lv_aload_n hx hb dL_law_1745 rfl (lv_at hl 5 rfl) ?_
  refine lv_iload hx hb dL_law_1746 (lv_at hl 0 rfl) ?_
  refine lv_iconst (v := 1) hx hb dL_law_1748 (by decide) ?_
  refine lv_iadd hx hb dL_law_1749 ?_
  refine W.eq (g2 := F0 m 1750 ls [.int 1, .ref b, .ref xa]) (by first | rfl | decide) ?_
  refine va_sld hx hb hX hbl hbA hh.2.2.2.1 (by unfold vp_in; decide) dL_law_1750 ?_
  refine W.eq (g2 := F0 m 1751 ls [.int (xs 1), .ref xa]) rfl ?_
  refine lv_aload_n hx hb dL_law_1751 rfl (lv_at hl 2 rfl) ?_
  refine k_callSX (wr := [(ma, .inr (16, [.int 0, .ref m1, .ref m2, .ref m3, .ref m4, .ref m5, .ref m6, .ref m7, .ref m8, .int 0, .int 0])), (m3, .inr (4, [.int 0, .ref e0.1, .int 0]))]) (rest := []) (own := RL) ⟨hx, hb, hml, hown, hts⟩ (c_L_sides l hst D e0 xa x1 x2 x3 x4 x5 g1 g2 g3 g4 ((xs 1)) o1 z3 ((fun _ => 0)) h) (vx_cwSW 3 hts gl_S_c_L_sides rfl rfl rfl (by decide +kernel) ⟨Nat.le_of_ble_eq_true rfl, Nat.le_of_ble_eq_true rfl⟩) hh [0, 1, 4] [2, 3] [0] rfl rfl rfl rfl (by decide) rfl rfl hl rfl (Nat.le_of_ble_eq_true rfl) dL_law_1752 ⟨Nat.le_of_ble_eq_true rfl, (Nat.le_of_ble_eq_true rfl)⟩ (fun _ _ _ _ _ h => h.elim) (fun v w ty1 H locs hp hh => ?_)
  obtain ⟨rfl, rfl, rfl⟩ := hp
  have hh : kH D kStr e0 A s H [(ma, .inr (16, [.int 0, .ref m1, .ref m2, .ref m3, .ref m4, .ref m5, .ref m6, .ref m7, .ref m8, .int 0, .int 0])), (m3, .inr (4, [.int 0, .ref e0.1, .int 0])), (o1, .inl (z3, 1, .inr (.inl (vp_updL ((fun _ => 0)) (0 : Int32).toNatClampNeg 0))))] [(z3, .long), (z3, .long)] _ := hh
  refine W.eq (g2 := F0 m 1755 ls [.int 0]) (by first | rfl | decide) ?_
  refine lv_istore (lv' := [(6, .int 0), (5, .int 0), (4, .ref o2), (3, .ref o1), (2, .ref ma), (1, .ref xa), (0, .ref b)]) hx hb dL_law_1755 hl (by decide) rfl (fun ls hl => ?_)
  refine lv_aload_n hx hb dL_law_1757 rfl (lv_at hl 4 rfl) ?_
  refine lv_aload_n hx hb dL_law_1758 rfl (lv_at hl 6 rfl) ?_
  refine lv_iload hx hb dL_law_1759 (lv_at hl 1 rfl) ?_
  refine lv_iconst (v := 1) hx hb dL_law_1761 (by decide) ?_
  refine lv_iadd hx hb dL_law_1762 ?_
  refine W.eq (g2 := F0 m 1763 ls [.int 1, .ref b, .ref ma]) (by first | rfl | decide) ?_
  refine va_sld hx hb hX hbl hbA hh.2.2.2.1 (by unfold vp_in; decide) dL_law_1763 ?_
  refine W.eq (g2 := F0 m 1764 ls [.int (xs 1), .ref ma]) rfl ?_
  refine k_callV (C := RX11) (T := TX11) (N := 11) (ci := 16) (q0 := 0) (wr := [(o1, .inl (z3, 1, .inr (.inl (vp_updL ((fun _ => 0)) (0 : Int32).toNatClampNeg 0))))]) (rest := []) (own := RL) ⟨hx, hb, hml, hown, hts⟩ (c_X11_sides l hst D e0 ma 0 m1 m2 m3 m4 m5 m6 m7 m8 ((xs 1)) h) (cwV 1 hts gl_V_c_X11_sides rfl rfl rfl (by decide +kernel) ⟨Nat.le_of_ble_eq_true rfl, Nat.le_of_ble_eq_true rfl⟩) hh rfl rfl [0, 1] [2] [] rfl rfl rfl rfl (by decide) rfl rfl hl rfl (Nat.le_of_ble_eq_true rfl) dL_law_1764 ⟨Nat.le_of_ble_eq_true rfl, (Nat.le_of_ble_eq_true rfl)⟩ (fun _ _ _ _ _ h => h.elim) (fun v w ty1 H locs hp hh => ?_)
  obtain ⟨rfl, rfl, rfl⟩ := hp
  have hh : kH D kStr e0 A s H [(o1, .inl (z3, 1, .inr (.inl (vp_updL ((fun _ => 0)) (0 : Int32).toNatClampNeg 0)))), (ma, .inr (16, [.int 0, .ref m1, .ref m2, .ref m3, .ref m4, .ref m5, .ref m6, .ref m7, .ref m8, .int 0, .int 0]))] [(z3, .long), (z3, .long)] _ := hh
  refine W.eq (g2 := F0 m 1767 ls [.int 0]) (by first | rfl | decide) ?_
  refine lv_istore (lv' := [(7, .int 0), (6, .int 0), (5, .int 0), (4, .ref o2), (3, .ref o1), (2, .ref ma), (1, .ref xa), (0, .ref b)]) hx hb dL_law_1767 hl (by decide) rfl (fun ls hl => ?_)
  refine lv_aload_n hx hb dL_law_1769 rfl (lv_at hl 5 rfl) ?_
  refine k_callV (C := RX11) (T := TX11) (N := 11) (ci := 16) (q0 := 1) (wr := [(o1, .inl (z3, 1, .inr (.inl (vp_updL ((fun _ => 0)) (0 : Int32).toNatClampNeg 0))))]) (rest := []) (own := RL) ⟨hx, hb, hml, hown, hts⟩ (c_X11_thrown l hst D e0 ma 0 m1 m2 m3 m4 m5 m6 m7 m8 ) (cwV 0 hts gl_V_c_X11_thrown rfl rfl rfl (by decide +kernel) ⟨Nat.le_of_ble_eq_true rfl, Nat.le_of_ble_eq_true rfl⟩) hh rfl rfl [1] [0] [] rfl rfl rfl rfl (by decide) rfl rfl hl rfl (Nat.le_of_ble_eq_true rfl) dL_law_1770 ⟨Nat.le_of_ble_eq_true rfl, (Nat.le_of_ble_eq_true rfl)⟩ (fun _ _ _ _ _ h => h.elim) (fun v w ty1 H locs hp hh => ?_)
  obtain ⟨rfl, rfl, rfl⟩ := hp
  have hh : kH D kStr e0 A s H [(o1, .inl (z3, 1, .inr (.inl (vp_updL ((fun _ => 0)) (0 : Int32).toNatClampNeg 0)))), (ma, .inr (16, [.int 0, .ref m1, .ref m2, .ref m3, .ref m4, .ref m5, .ref m6, .ref m7, .ref m8, .int 0, .int 0]))] [(z3, .long), (z3, .long)] _ := hh
  refine W.eq (g2 := F0 m 1773 ls [.int 0]) (by first | rfl | decide) ?_
  refine lv_iload hx hb dL_law_1773 (lv_at hl 1 rfl) ?_
  refine lv_icmp_eq (tgt := 1780) hx hb dL_law_1775 (by decide) (fun _ => ?_) (fun c_1775 => absurd (by decide) c_1775)
  refine lv_iload hx hb dL_law_1780 (lv_at hl 1 rfl) ?_
  refine lv_if_ne (tgt := 1797) hx hb dL_law_1782 (by decide) (fun c_1782 => absurd (by decide) c_1782) (fun _ => ?_)
  refine lv_aload_n hx hb dL_law_1785 rfl (lv_at hl 4 rfl) ?_
  refine lv_iconst (v := 0) hx hb dL_law_1786 (by decide) ?_
  refine k_lald (v := 0) hx hb hh 0 0 rfl rfl (by unfold vp_in; decide) (by first | rfl | simp [vp_updL]) dL_law_1787 ?_
  refine lv_iload hx hb dL_law_1788 (lv_at hl 0 rfl) ?_
  refine lv_i2l (v := 0) hx hb dL_law_1790 (by decide) ?_
  refine W.lcmp hx hb dL_law_1791 ?_
  refine W.eq (g2 := F0 m 1792 ls [.int 0]) (by rw [show lg_cmp (0 : Int64) (0 : Int64) = 0 from by decide]) ?_
  refine lv_if_eq (tgt := 1797) hx hb dL_law_1792 (by decide) (fun _ => ?_) (fun c_1792 => absurd (by decide) c_1792)
  refine lv_goto (tgt := 3429) hx hb dL_law_1797 (by decide) ?_
  refine W.widen (k := 1000) (n := 100000) (Nat.le_of_ble_eq_true rfl) (Nat.le_of_ble_eq_true rfl) ?_
  exact kk _ _ _ hh.2.2.2.1 (lv_sub hl [7, 2] rfl)
set_option maxHeartbeats 4000000 in
set_option maxRecDepth 100000 in
theorem law_23_bad {p : Program} {l : Launch} {e : Env} {s : State} {m : MethodId} {below : List Frame} {meth : Method} {c : Code} {Q : State → Prop} {b : Nat} {xs : Nat → Int32} {D : va_G} {e0 : kE} {A : Nat → Prop} (hst : l.stackTraces = false) (hx : p.tables.exec = Jvm.exec) (hb : c.code = cL_law) (hml : c.maxLocals = 9) (hts : ∀ w ∈ lw_tbl, w.before #[Value.ref b] s = true) (hown : s.vm.findClass RL = some m.cls) (hX : va_X b 5 xs s s.heap) (hbl : b < s.heap.size) (hbA : ¬ A b) {xa x1 x2 x3 x4 x5 g1 g2 g3 g4 h1 h2 h3 h4 h5 ma m1 m2 m3 m4 m5 m6 m7 m8 o1 o2 : Nat} {z1 z2 z3 z4 : ClassId} (h : ¬ (1 ≤ xs 1 ∧ xs 1 ≤ 99999)) {H : Heap} {locs : List Loc} {ls : Array Slot} (hh : kH D kStr e0 A s H (lwW e0 xa x1 x2 x3 x4 x5 g1 g2 g3 g4 h1 h2 h3 h4 h5 ma m1 m2 m3 m4 m5 m6 m7 m8 o1 o2 z1 z2 z3 z4) (lwT z1 z2 z3 z4) locs) (hl : lv_has ls 9 (lwL b xa ma o1 o2)) (kk : lwK p l e s m below meth c Q b A) : W p l e room_1 s m #[Value.ref b] below meth c H locs 100 10000 Q (F0 m 1744 ls []) := by
  have hh : kH D kStr e0 A s H [(xa, .inr (11, [.ref x1, .int 0, .ref x2, .int 0, .ref x3, .ref x4, .ref x5, .int 0])), (x3, .inr (9, [.ref g1, .int 0, .ref g2, .int 0, .ref g3, .ref g4])), (ma, .inr (16, [.int 0, .ref m1, .ref m2, .ref m3, .ref m4, .ref m5, .ref m6, .ref m7, .ref m8, .int 0, .int 0])), (o1, .inl (z3, 1, .inr (.inl (fun _ => 0))))] [(z3, .long)] _ := hh.sub [0, 1, 5, 14] [2] rfl rfl rfl
  have hl : lv_has ls 9 [(5, .int 0), (4, .ref o2), (3, .ref o1), (2, .ref ma), (1, .ref xa), (0, .ref b)] := hl
  refine lv_aload_n hx hb dL_law_1744 rfl (lv_at hl 4 rfl) ?_
  refine lv_aload_n hx hb dL_law_1745 rfl (lv_at hl 5 rfl) ?_
  refine lv_iload hx hb dL_law_1746 (lv_at hl 0 rfl) ?_
  refine lv_iconst (v := 1) hx hb dL_law_1748 (by decide) ?_
  refine lv_iadd hx hb dL_law_1749 ?_
  refine W.eq (g2 := F0 m 1750 ls [.int 1, .ref b, .ref xa]) (by first | rfl | decide) ?_
  refine va_sld hx hb hX hbl hbA hh.2.2.2.1 (by unfold vp_in; decide) dL_law_1750 ?_
  refine W.eq (g2 := F0 m 1751 ls [.int (xs 1), .ref xa]) rfl ?_
  refine lv_aload_n hx hb dL_law_1751 rfl (lv_at hl 2 rfl) ?_
  refine k_callSX (wr := [(ma, .inr (16, [.int 0, .ref m1, .ref m2, .ref m3, .ref m4, .ref m5, .ref m6, .ref m7, .ref m8, .int 0, .int 0]))]) (rest := []) (own := RL) ⟨hx, hb, hml, hown, hts⟩ (c_L_sides_bad l hst D e0 xa x1 x2 x3 x4 x5 g1 g2 g3 g4 ((xs 1)) o1 z3 ((fun _ => 0)) h) (vx_cwSW 3 hts gl_S_c_L_sides_bad rfl rfl rfl (by decide +kernel) ⟨Nat.le_of_ble_eq_true rfl, Nat.le_of_ble_eq_true rfl⟩) hh [0, 1, 3] [2] [0] rfl rfl rfl rfl (by decide) rfl rfl hl rfl (Nat.le_of_ble_eq_true rfl) dL_law_1752 ⟨Nat.le_of_ble_eq_true rfl, (Nat.le_of_ble_eq_true rfl)⟩ (fun _ _ _ _ _ h => h.elim) (fun v w ty1 H locs hp hh => ?_)
  obtain ⟨rfl, rfl, rfl⟩ := hp
  have hh : kH D kStr e0 A s H [(ma, .inr (16, [.int 0, .ref m1, .ref m2, .ref m3, .ref m4, .ref m5, .ref m6, .ref m7, .ref m8, .int 0, .int 0])), (o1, .inl (z3, 1, .inr (.inl (fun _ => 0))))] [(z3, .long), (z3, .long)] _ := hh
  refine W.eq (g2 := F0 m 1755 ls [.int 1]) (by first | rfl | decide) ?_
  refine lv_istore (lv' := [(6, .int 1), (5, .int 0), (4, .ref o2), (3, .ref o1), (2, .ref ma), (1, .ref xa), (0, .ref b)]) hx hb dL_law_1755 hl (by decide) rfl (fun ls hl => ?_)
  refine lv_aload_n hx hb dL_law_1757 rfl (lv_at hl 4 rfl) ?_
  refine lv_aload_n hx hb dL_law_1758 rfl (lv_at hl 6 rfl) ?_
  refine lv_iload hx hb dL_law_1759 (lv_at hl 1 rfl) ?_
  refine lv_iconst (v := 1) hx hb dL_law_1761 (by decide) ?_
  refine lv_iadd hx hb dL_law_1762 ?_
  refine W.eq (g2 := F0 m 1763 ls [.int 1, .ref b, .ref ma]) (by first | rfl | decide) ?_
  refine va_sld hx hb hX hbl hbA hh.2.2.2.1 (by unfold vp_in; decide) dL_law_1763 ?_
  refine W.eq (g2 := F0 m 1764 ls [.int (xs 1), .ref ma]) rfl ?_
  refine k_callV (C := RX11) (T := TX11) (N := 11) (ci := 16) (q0 := 0) (wr := [(o1, .inl (z3, 1, .inr (.inl (fun _ => 0))))]) (rest := []) (own := RL) ⟨hx, hb, hml, hown, hts⟩ (c_X11_sides_bad l hst D e0 ma 0 m1 m2 m3 m4 m5 m6 m7 m8 ((xs 1)) h) (cwV 1 hts gl_V_c_X11_sides_bad rfl rfl rfl (by decide +kernel) ⟨Nat.le_of_ble_eq_true rfl, Nat.le_of_ble_eq_true rfl⟩) hh rfl rfl [0] [1] [] rfl rfl rfl rfl (by decide) rfl rfl hl rfl (Nat.le_of_ble_eq_true rfl) dL_law_1764 ⟨Nat.le_of_ble_eq_true rfl, (Nat.le_of_ble_eq_true rfl)⟩ (fun _ _ _ _ _ h => h.elim) (fun v w ty1 H locs hp hh => ?_)
  obtain ⟨rfl, rfl, rfl⟩ := hp
  have hh : kH D kStr e0 A s H [(o1, .inl (z3, 1, .inr (.inl (fun _ => 0)))), (ma, .inr (16, [.int 1, .ref m1, .ref m2, .ref m3, .ref m4, .ref m5, .ref m6, .ref m7, .ref m8, .int 0, .int 0]))] [(z3, .long), (z3, .long)] _ := hh
  refine W.eq (g2 := F0 m 1767 ls [.int 0]) (by first | rfl | decide) ?_
  refine lv_istore (lv' := [(7, .int 0), (6, .int 1), (5, .int 0), (4, .ref o2), (3, .ref o1), (2, .ref ma), (1, .ref xa), (0, .ref b)]) hx hb dL_law_1767 hl (by decide) rfl (fun ls hl => ?_)
  refine lv_aload_n hx hb dL_law_1769 rfl (lv_at hl 5 rfl) ?_
  refine k_callV (C := RX11) (T := TX11) (N := 11) (ci := 16) (q0 := 1) (wr := [(o1, .inl (z3, 1, .inr (.inl (fun _ => 0))))]) (rest := []) (own := RL) ⟨hx, hb, hml, hown, hts⟩ (c_X11_thrown l hst D e0 ma 1 m1 m2 m3 m4 m5 m6 m7 m8 ) (cwV 0 hts gl_V_c_X11_thrown rfl rfl rfl (by decide +kernel) ⟨Nat.le_of_ble_eq_true rfl, Nat.le_of_ble_eq_true rfl⟩) hh rfl rfl [1] [0] [] rfl rfl rfl rfl (by decide) rfl rfl hl rfl (Nat.le_of_ble_eq_true rfl) dL_law_1770 ⟨Nat.le_of_ble_eq_true rfl, (Nat.le_of_ble_eq_true rfl)⟩ (fun _ _ _ _ _ h => h.elim) (fun v w ty1 H locs hp hh => ?_)
  obtain ⟨rfl, rfl, rfl⟩ := hp
  have hh : kH D kStr e0 A s H [(o1, .inl (z3, 1, .inr (.inl (fun _ => 0)))), (ma, .inr (16, [.int 1, .ref m1, .ref m2, .ref m3, .ref m4, .ref m5, .ref m6, .ref m7, .ref m8, .int 0, .int 0]))] [(z3, .long), (z3, .long)] _ := hh
  refine W.eq (g2 := F0 m 1773 ls [.int 1]) (by first | rfl | decide) ?_
  refine lv_iload hx hb dL_law_1773 (lv_at hl 1 rfl) ?_
  refine lv_icmp_eq (tgt := 1780) hx hb dL_law_1775 (by decide) (fun _ => ?_) (fun c_1775 => absurd (by decide) c_1775)
  refine lv_iload hx hb dL_law_1780 (lv_at hl 1 rfl) ?_
  refine lv_if_ne (tgt := 1797) hx hb dL_law_1782 (by decide) (fun _ => ?_) (fun c_1782 => absurd c_1782 (by decide))
  refine lv_goto (tgt := 3429) hx hb dL_law_1797 (by decide) ?_
  refine W.widen (k := 1000) (n := 100000) (Nat.le_of_ble_eq_true rfl) (Nat.le_of_ble_eq_true rfl) ?_
  exact kk _ _ _ hh.2.2.2.1 (lv_sub hl [7, 2] rfl)
set_option maxHeartbeats 4000000 in
set_option maxRecDepth 100000 in
theorem law_25 {p : Program} {l : Launch} {e : Env} {s : State} {m : MethodId} {below : List Frame} {meth : Method} {c : Code} {Q : State → Prop} {b : Nat} {xs : Nat → Int32} {D : va_G} {e0 : kE} {A : Nat → Prop} (hst : l.stackTraces = false) (hx : p.tables.exec = Jvm.exec) (hb : c.code = cL_law) (hml : c.maxLocals = 9) (hts : ∀ w ∈ lw_tbl, w.before #[Value.ref b] s = true) (hown : s.vm.findClass RL = some m.cls) (hX : va_X b 5 xs s s.heap) (hbl : b < s.heap.size) (hbA : ¬ A b) {xa x1 x2 x3 x4 x5 g1 g2 g3 g4 h1 h2 h3 h4 h5 ma m1 m2 m3 m4 m5 m6 m7 m8 o1 o2 : Nat} {z1 z2 z3 z4 : ClassId} (h : 1 ≤ xs 2 ∧ xs 2 ≤ 99999) {H : Heap} {locs : List Loc} {ls : Array Slot} (hh : kH D kStr e0 A s H (lwW e0 xa x1 x2 x3 x4 x5 g1 g2 g3 g4 h1 h2 h3 h4 h5 ma m1 m2 m3 m4 m5 m6 m7 m8 o1 o2 z1 z2 z3 z4) (lwT z1 z2 z3 z4) locs) (hl : lv_has ls 9 (lwL b xa ma o1 o2)) (kk : lwK p l e s m below meth c Q b A) : W p l e room_1 s m #[Value.ref b] below meth c H locs 100 10000 Q (F0 m 1868 ls []) := by
  have hh : kH D kStr e0 A s H [(xa, .inr (11, [.ref x1, .int 0, .ref x2, .int 0, .ref x3, .ref x4, .ref x5, .int 0])), (x3, .inr (9, [.ref g1, .int 0, .ref g2, .int 0, .ref g3, .ref g4])), (ma, .inr (16, [.int 0, .ref m1, .ref m2, .ref m3, .ref m4, .ref m5, .ref m6, .ref m7, .ref m8, .int 0, .int 0])), (m3, .inr (4, [.int 0, .ref e0.1, .int 0])), (o1, .inl (z3, 1, .inr (.inl (fun _ => 0))))] [(z3, .long)] _ := hh.sub [0, 1, 5, 8, 14] [2] rfl rfl rfl
  have hl : lv_has ls 9 [(5, .int 0), (4, .ref o2), (3, .ref o1), (2, .ref ma), (1, .ref xa), (0, .ref b)] := hl
  refine lv_aload_n hx hb dL_law_1868 rfl (lv_at hl 4 rfl) ?_
  refine lv_aload_n hx hb dL_law_1869 rfl (lv_at hl 5 rfl) ?_
  refine lv_iload hx hb dL_law_1870 (lv_at hl 0 rfl) ?_
  refine lv_iconst (v := 1) hx hb dL_law_1872 (by decide) ?_
  refine lv_iadd hx hb dL_law_1873 ?_
  refine W.eq (g2 := F0 m 1874 ls [.int 1, .ref b, .ref xa]) (by first | rfl | decide) ?_
  refine va_sld hx hb hX hbl hbA hh.2.2.2.1 (by unfold vp_in; decide) dL_law_1874 ?_
  refine W.eq (g2 := F0 m 1875 ls [.int (xs 1), .ref xa]) rfl ?_
  refine lv_aload_n hx hb dL_law_1875 rfl (lv_at hl 5 rfl) ?_
  refine lv_iload hx hb dL_law_1876 (lv_at hl 0 rfl) ?_
  refine lv_iconst (v := 2) hx hb dL_law_1878 (by decide) ?_
  refine lv_iadd hx hb dL_law_1879 ?_
  refine W.eq (g2 := F0 m 1880 ls [.int 2, .ref b, .int (xs 1), .ref xa]) (by first | rfl | decide) ?_
  refine va_sld hx hb hX hbl hbA hh.2.2.2.1 (by unfold vp_in; decide) dL_law_1880 ?_
  refine W.eq (g2 := F0 m 1881 ls [.int (xs 2), .int (xs 1), .ref xa]) rfl ?_
  refine lv_aload_n hx hb dL_law_1881 rfl (lv_at hl 2 rfl) ?_
  refine k_callSX (wr := [(ma, .inr (16, [.int 0, .ref m1, .ref m2, .ref m3, .ref m4, .ref m5, .ref m6, .ref m7, .ref m8, .int 0, .int 0])), (m3, .inr (4, [.int 0, .ref e0.1, .int 0]))]) (rest := []) (own := RL) ⟨hx, hb, hml, hown, hts⟩ (c_L_engrave l hst D e0 xa x1 x2 x3 x4 x5 g1 g2 g3 g4 ((xs 1)) ((xs 2)) o1 z3 ((fun _ => 0)) h) (vx_cwSW 4 hts gl_S_c_L_engrave rfl rfl rfl (by decide +kernel) ⟨Nat.le_of_ble_eq_true rfl, Nat.le_of_ble_eq_true rfl⟩) hh [0, 1, 4] [2, 3] [0] rfl rfl rfl rfl (by decide) rfl rfl hl rfl (Nat.le_of_ble_eq_true rfl) dL_law_1882 ⟨Nat.le_of_ble_eq_true rfl, (Nat.le_of_ble_eq_true rfl)⟩ (fun _ _ _ _ _ h => h.elim) (fun v w ty1 H locs hp hh => ?_)
  obtain ⟨rfl, rfl, rfl⟩ := hp
  have hh : kH D kStr e0 A s H [(ma, .inr (16, [.int 0, .ref m1, .ref m2, .ref m3, .ref m4, .ref m5, .ref m6, .ref m7, .ref m8, .int 0, .int 0])), (m3, .inr (4, [.int 0, .ref e0.1, .int 0])), (o1, .inl (z3, 1, .inr (.inl (fun _ => 0))))] [(z3, .long), (z3, .long)] _ := hh
  refine W.eq (g2 := F0 m 1885 ls [.int 3]) (by first | rfl | decide) ?_
  refine lv_istore (lv' := [(6, .int 3), (5, .int 0), (4, .ref o2), (3, .ref o1), (2, .ref ma), (1, .ref xa), (0, .ref b)]) hx hb dL_law_1885 hl (by decide) rfl (fun ls hl => ?_)
  refine lv_aload_n hx hb dL_law_1887 rfl (lv_at hl 4 rfl) ?_
  refine lv_aload_n hx hb dL_law_1888 rfl (lv_at hl 6 rfl) ?_
  refine lv_iload hx hb dL_law_1889 (lv_at hl 1 rfl) ?_
  refine lv_iconst (v := 1) hx hb dL_law_1891 (by decide) ?_
  refine lv_iadd hx hb dL_law_1892 ?_
  refine W.eq (g2 := F0 m 1893 ls [.int 1, .ref b, .ref ma]) (by first | rfl | decide) ?_
  refine va_sld hx hb hX hbl hbA hh.2.2.2.1 (by unfold vp_in; decide) dL_law_1893 ?_
  refine W.eq (g2 := F0 m 1894 ls [.int (xs 1), .ref ma]) rfl ?_
  refine lv_aload_n hx hb dL_law_1894 rfl (lv_at hl 6 rfl) ?_
  refine lv_iload hx hb dL_law_1895 (lv_at hl 1 rfl) ?_
  refine lv_iconst (v := 2) hx hb dL_law_1897 (by decide) ?_
  refine lv_iadd hx hb dL_law_1898 ?_
  refine W.eq (g2 := F0 m 1899 ls [.int 2, .ref b, .int (xs 1), .ref ma]) (by first | rfl | decide) ?_
  refine va_sld hx hb hX hbl hbA hh.2.2.2.1 (by unfold vp_in; decide) dL_law_1899 ?_
  refine W.eq (g2 := F0 m 1900 ls [.int (xs 2), .int (xs 1), .ref ma]) rfl ?_
  refine k_callV (C := RX11) (T := TX11) (N := 11) (ci := 16) (q0 := 0) (wr := [(o1, .inl (z3, 1, .inr (.inl (fun _ => 0))))]) (rest := []) (own := RL) ⟨hx, hb, hml, hown, hts⟩ (c_X11_engrave l hst D e0 ma 0 m1 m2 m3 m4 m5 m6 m7 m8 ((xs 1)) ((xs 2)) h) (cwV 2 hts gl_V_c_X11_engrave rfl rfl rfl (by decide +kernel) ⟨Nat.le_of_ble_eq_true rfl, Nat.le_of_ble_eq_true rfl⟩) hh rfl rfl [0, 1] [2] [] rfl rfl rfl rfl (by decide) rfl rfl hl rfl (Nat.le_of_ble_eq_true rfl) dL_law_1900 ⟨Nat.le_of_ble_eq_true rfl, (Nat.le_of_ble_eq_true rfl)⟩ (fun _ _ _ _ _ h => h.elim) (fun v w ty1 H locs hp hh => ?_)
  obtain ⟨rfl, rfl, rfl⟩ := hp
  have hh : kH D kStr e0 A s H [(o1, .inl (z3, 1, .inr (.inl (fun _ => 0)))), (ma, .inr (16, [.int 3, .ref m1, .ref m2, .ref m3, .ref m4, .ref m5, .ref m6, .ref m7, .ref m8, .int 0, .int 0]))] [(z3, .long), (z3, .long)] _ := hh
  refine W.eq (g2 := F0 m 1903 ls [.int 0]) (by first | rfl | decide) ?_
  refine lv_istore (lv' := [(7, .int 0), (6, .int 3), (5, .int 0), (4, .ref o2), (3, .ref o1), (2, .ref ma), (1, .ref xa), (0, .ref b)]) hx hb dL_law_1903 hl (by decide) rfl (fun ls hl => ?_)
  refine lv_aload_n hx hb dL_law_1905 rfl (lv_at hl 5 rfl) ?_
  refine k_callV (C := RX11) (T := TX11) (N := 11) (ci := 16) (q0 := 1) (wr := [(o1, .inl (z3, 1, .inr (.inl (fun _ => 0))))]) (rest := []) (own := RL) ⟨hx, hb, hml, hown, hts⟩ (c_X11_thrown l hst D e0 ma 3 m1 m2 m3 m4 m5 m6 m7 m8 ) (cwV 0 hts gl_V_c_X11_thrown rfl rfl rfl (by decide +kernel) ⟨Nat.le_of_ble_eq_true rfl, Nat.le_of_ble_eq_true rfl⟩) hh rfl rfl [1] [0] [] rfl rfl rfl rfl (by decide) rfl rfl hl rfl (Nat.le_of_ble_eq_true rfl) dL_law_1906 ⟨Nat.le_of_ble_eq_true rfl, (Nat.le_of_ble_eq_true rfl)⟩ (fun _ _ _ _ _ h => h.elim) (fun v w ty1 H locs hp hh => ?_)
  obtain ⟨rfl, rfl, rfl⟩ := hp
  have hh : kH D kStr e0 A s H [(o1, .inl (z3, 1, .inr (.inl (fun _ => 0)))), (ma, .inr (16, [.int 3, .ref m1, .ref m2, .ref m3, .ref m4, .ref m5, .ref m6, .ref m7, .ref m8, .int 0, .int 0]))] [(z3, .long), (z3, .long)] _ := hh
  refine W.eq (g2 := F0 m 1909 ls [.int 3]) (by first | rfl | decide) ?_
  refine lv_iload hx hb dL_law_1909 (lv_at hl 1 rfl) ?_
  refine lv_icmp_eq (tgt := 1916) hx hb dL_law_1911 (by decide) (fun _ => ?_) (fun c_1911 => absurd (by decide) c_1911)
  refine lv_iload hx hb dL_law_1916 (lv_at hl 1 rfl) ?_
  refine lv_if_ne (tgt := 1933) hx hb dL_law_1918 (by decide) (fun _ => ?_) (fun c_1918 => absurd c_1918 (by decide))
  refine lv_goto (tgt := 3429) hx hb dL_law_1933 (by decide) ?_
  refine W.widen (k := 1000) (n := 100000) (Nat.le_of_ble_eq_true rfl) (Nat.le_of_ble_eq_true rfl) ?_
  exact kk _ _ _ hh.2.2.2.1 (lv_sub hl [7, 2] rfl)
set_option maxHeartbeats 4000000 in
set_option maxRecDepth 100000 in
theorem law_25_bad {p : Program} {l : Launch} {e : Env} {s : State} {m : MethodId} {below : List Frame} {meth : Method} {c : Code} {Q : State → Prop} {b : Nat} {xs : Nat → Int32} {D : va_G} {e0 : kE} {A : Nat → Prop} (hst : l.stackTraces = false) (hx : p.tables.exec = Jvm.exec) (hb : c.code = cL_law) (hml : c.maxLocals = 9) (hts : ∀ w ∈ lw_tbl, w.before #[Value.ref b] s = true) (hown : s.vm.findClass RL = some m.cls) (hX : va_X b 5 xs s s.heap) (hbl : b < s.heap.size) (hbA : ¬ A b) {xa x1 x2 x3 x4 x5 g1 g2 g3 g4 h1 h2 h3 h4 h5 ma m1 m2 m3 m4 m5 m6 m7 m8 o1 o2 : Nat} {z1 z2 z3 z4 : ClassId} (h : ¬ (1 ≤ xs 2 ∧ xs 2 ≤ 99999)) {H : Heap} {locs : List Loc} {ls : Array Slot} (hh : kH D kStr e0 A s H (lwW e0 xa x1 x2 x3 x4 x5 g1 g2 g3 g4 h1 h2 h3 h4 h5 ma m1 m2 m3 m4 m5 m6 m7 m8 o1 o2 z1 z2 z3 z4) (lwT z1 z2 z3 z4) locs) (hl : lv_has ls 9 (lwL b xa ma o1 o2)) (kk : lwK p l e s m below meth c Q b A) : W p l e room_1 s m #[Value.ref b] below meth c H locs 100 10000 Q (F0 m 1868 ls []) := by
  have hh : kH D kStr e0 A s H [(xa, .inr (11, [.ref x1, .int 0, .ref x2, .int 0, .ref x3, .ref x4, .ref x5, .int 0])), (x3, .inr (9, [.ref g1, .int 0, .ref g2, .int 0, .ref g3, .ref g4])), (ma, .inr (16, [.int 0, .ref m1, .ref m2, .ref m3, .ref m4, .ref m5, .ref m6, .ref m7, .ref m8, .int 0, .int 0])), (o1, .inl (z3, 1, .inr (.inl (fun _ => 0))))] [(z3, .long)] _ := hh.sub [0, 1, 5, 14] [2] rfl rfl rfl
  have hl : lv_has ls 9 [(5, .int 0), (4, .ref o2), (3, .ref o1), (2, .ref ma), (1, .ref xa), (0, .ref b)] := hl
  refine lv_aload_n hx hb dL_law_1868 rfl (lv_at hl 4 rfl) ?_
  refine lv_aload_n hx hb dL_law_1869 rfl (lv_at hl 5 rfl) ?_
  refine lv_iload hx hb dL_law_1870 (lv_at hl 0 rfl) ?_
  refine lv_iconst (v := 1) hx hb dL_law_1872 (by decide) ?_
  refine lv_iadd hx hb dL_law_1873 ?_
  refine W.eq (g2 := F0 m 1874 ls [.int 1, .ref b, .ref xa]) (by first | rfl | decide) ?_
  refine va_sld hx hb hX hbl hbA hh.2.2.2.1 (by unfold vp_in; decide) dL_law_1874 ?_
  refine W.eq (g2 := F0 m 1875 ls [.int (xs 1), .ref xa]) rfl ?_
  refine lv_aload_n hx hb dL_law_1875 rfl (lv_at hl 5 rfl) ?_
  refine lv_iload hx hb dL_law_1876 (lv_at hl 0 rfl) ?_
  refine lv_iconst (v := 2) hx hb dL_law_1878 (by decide) ?_
  refine lv_iadd hx hb dL_law_1879 ?_
  refine W.eq (g2 := F0 m 1880 ls [.int 2, .ref b, .int (xs 1), .ref xa]) (by first | rfl | decide) ?_
  refine va_sld hx hb hX hbl hbA hh.2.2.2.1 (by unfold vp_in; decide) dL_law_1880 ?_
  refine W.eq (g2 := F0 m 1881 ls [.int (xs 2), .int (xs 1), .ref xa]) rfl ?_
  refine lv_aload_n hx hb dL_law_1881 rfl (lv_at hl 2 rfl) ?_
  refine k_callSX (wr := [(ma, .inr (16, [.int 0, .ref m1, .ref m2, .ref m3, .ref m4, .ref m5, .ref m6, .ref m7, .ref m8, .int 0, .int 0]))]) (rest := []) (own := RL) ⟨hx, hb, hml, hown, hts⟩ (c_L_engrave_bad l hst D e0 xa x1 x2 x3 x4 x5 g1 g2 g3 g4 ((xs 1)) ((xs 2)) o1 z3 ((fun _ => 0)) h) (vx_cwSW 4 hts gl_S_c_L_engrave_bad rfl rfl rfl (by decide +kernel) ⟨Nat.le_of_ble_eq_true rfl, Nat.le_of_ble_eq_true rfl⟩) hh [0, 1, 3] [2] [0] rfl rfl rfl rfl (by decide) rfl rfl hl rfl (Nat.le_of_ble_eq_true rfl) dL_law_1882 ⟨Nat.le_of_ble_eq_true rfl, (Nat.le_of_ble_eq_true rfl)⟩ (fun _ _ _ _ _ h => h.elim) (fun v w ty1 H locs hp hh => ?_)
  obtain ⟨rfl, rfl, rfl⟩ := hp
  have hh : kH D kStr e0 A s H [(ma, .inr (16, [.int 0, .ref m1, .ref m2, .ref m3, .ref m4, .ref m5, .ref m6, .ref m7, .ref m8, .int 0, .int 0])), (o1, .inl (z3, 1, .inr (.inl (fun _ => 0))))] [(z3, .long), (z3, .long)] _ := hh
  refine W.eq (g2 := F0 m 1885 ls [.int 1]) (by first | rfl | decide) ?_
  refine lv_istore (lv' := [(6, .int 1), (5, .int 0), (4, .ref o2), (3, .ref o1), (2, .ref ma), (1, .ref xa), (0, .ref b)]) hx hb dL_law_1885 hl (by decide) rfl (fun ls hl => ?_)
  refine lv_aload_n hx hb dL_law_1887 rfl (lv_at hl 4 rfl) ?_
  refine lv_aload_n hx hb dL_law_1888 rfl (lv_at hl 6 rfl) ?_
  refine lv_iload hx hb dL_law_1889 (lv_at hl 1 rfl) ?_
  refine lv_iconst (v := 1) hx hb dL_law_1891 (by decide) ?_
  refine lv_iadd hx hb dL_law_1892 ?_
  refine W.eq (g2 := F0 m 1893 ls [.int 1, .ref b, .ref ma]) (by first | rfl | decide) ?_
  refine va_sld hx hb hX hbl hbA hh.2.2.2.1 (by unfold vp_in; decide) dL_law_1893 ?_
  refine W.eq (g2 := F0 m 1894 ls [.int (xs 1), .ref ma]) rfl ?_
  refine lv_aload_n hx hb dL_law_1894 rfl (lv_at hl 6 rfl) ?_
  refine lv_iload hx hb dL_law_1895 (lv_at hl 1 rfl) ?_
  refine lv_iconst (v := 2) hx hb dL_law_1897 (by decide) ?_
  refine lv_iadd hx hb dL_law_1898 ?_
  refine W.eq (g2 := F0 m 1899 ls [.int 2, .ref b, .int (xs 1), .ref ma]) (by first | rfl | decide) ?_
  refine va_sld hx hb hX hbl hbA hh.2.2.2.1 (by unfold vp_in; decide) dL_law_1899 ?_
  refine W.eq (g2 := F0 m 1900 ls [.int (xs 2), .int (xs 1), .ref ma]) rfl ?_
  refine k_callV (C := RX11) (T := TX11) (N := 11) (ci := 16) (q0 := 0) (wr := [(o1, .inl (z3, 1, .inr (.inl (fun _ => 0))))]) (rest := []) (own := RL) ⟨hx, hb, hml, hown, hts⟩ (c_X11_engrave_bad l hst D e0 ma 0 m1 m2 m3 m4 m5 m6 m7 m8 ((xs 1)) ((xs 2)) h) (cwV 2 hts gl_V_c_X11_engrave_bad rfl rfl rfl (by decide +kernel) ⟨Nat.le_of_ble_eq_true rfl, Nat.le_of_ble_eq_true rfl⟩) hh rfl rfl [0] [1] [] rfl rfl rfl rfl (by decide) rfl rfl hl rfl (Nat.le_of_ble_eq_true rfl) dL_law_1900 ⟨Nat.le_of_ble_eq_true rfl, (Nat.le_of_ble_eq_true rfl)⟩ (fun _ _ _ _ _ h => h.elim) (fun v w ty1 H locs hp hh => ?_)
  obtain ⟨rfl, rfl, rfl⟩ := hp
  have hh : kH D kStr e0 A s H [(o1, .inl (z3, 1, .inr (.inl (fun _ => 0)))), (ma, .inr (16, [.int 1, .ref m1, .ref m2, .ref m3, .ref m4, .ref m5, .ref m6, .ref m7, .ref m8, .int 0, .int 0]))] [(z3, .long), (z3, .long)] _ := hh
  refine W.eq (g2 := F0 m 1903 ls [.int 0]) (by first | rfl | decide) ?_
  refine lv_istore (lv' := [(7, .int 0), (6, .int 1), (5, .int 0), (4, .ref o2), (3, .ref o1), (2, .ref ma), (1, .ref xa), (0, .ref b)]) hx hb dL_law_1903 hl (by decide) rfl (fun ls hl => ?_)
  refine lv_aload_n hx hb dL_law_1905 rfl (lv_at hl 5 rfl) ?_
  refine k_callV (C := RX11) (T := TX11) (N := 11) (ci := 16) (q0 := 1) (wr := [(o1, .inl (z3, 1, .inr (.inl (fun _ => 0))))]) (rest := []) (own := RL) ⟨hx, hb, hml, hown, hts⟩ (c_X11_thrown l hst D e0 ma 1 m1 m2 m3 m4 m5 m6 m7 m8 ) (cwV 0 hts gl_V_c_X11_thrown rfl rfl rfl (by decide +kernel) ⟨Nat.le_of_ble_eq_true rfl, Nat.le_of_ble_eq_true rfl⟩) hh rfl rfl [1] [0] [] rfl rfl rfl rfl (by decide) rfl rfl hl rfl (Nat.le_of_ble_eq_true rfl) dL_law_1906 ⟨Nat.le_of_ble_eq_true rfl, (Nat.le_of_ble_eq_true rfl)⟩ (fun _ _ _ _ _ h => h.elim) (fun v w ty1 H locs hp hh => ?_)
  obtain ⟨rfl, rfl, rfl⟩ := hp
  have hh : kH D kStr e0 A s H [(o1, .inl (z3, 1, .inr (.inl (fun _ => 0)))), (ma, .inr (16, [.int 1, .ref m1, .ref m2, .ref m3, .ref m4, .ref m5, .ref m6, .ref m7, .ref m8, .int 0, .int 0]))] [(z3, .long), (z3, .long)] _ := hh
  refine W.eq (g2 := F0 m 1909 ls [.int 1]) (by first | rfl | decide) ?_
  refine lv_iload hx hb dL_law_1909 (lv_at hl 1 rfl) ?_
  refine lv_icmp_eq (tgt := 1916) hx hb dL_law_1911 (by decide) (fun _ => ?_) (fun c_1911 => absurd (by decide) c_1911)
  refine lv_iload hx hb dL_law_1916 (lv_at hl 1 rfl) ?_
  refine lv_if_ne (tgt := 1933) hx hb dL_law_1918 (by decide) (fun _ => ?_) (fun c_1918 => absurd c_1918 (by decide))
  refine lv_goto (tgt := 3429) hx hb dL_law_1933 (by decide) ?_
  refine W.widen (k := 1000) (n := 100000) (Nat.le_of_ble_eq_true rfl) (Nat.le_of_ble_eq_true rfl) ?_
  exact kk _ _ _ hh.2.2.2.1 (lv_sub hl [7, 2] rfl)
set_option maxHeartbeats 4000000 in
set_option maxRecDepth 100000 in
theorem law_40 {p : Program} {l : Launch} {e : Env} {s : State} {m : MethodId} {below : List Frame} {meth : Method} {c : Code} {Q : State → Prop} {b : Nat} {xs : Nat → Int32} {D : va_G} {e0 : kE} {A : Nat → Prop} (hst : l.stackTraces = false) (hx : p.tables.exec = Jvm.exec) (hb : c.code = cL_law) (hml : c.maxLocals = 9) (hts : ∀ w ∈ lw_tbl, w.before #[Value.ref b] s = true) (hown : s.vm.findClass RL = some m.cls) (hX : va_X b 5 xs s s.heap) (hbl : b < s.heap.size) (hbA : ¬ A b) {xa x1 x2 x3 x4 x5 g1 g2 g3 g4 h1 h2 h3 h4 h5 ma m1 m2 m3 m4 m5 m6 m7 m8 o1 o2 : Nat} {z1 z2 z3 z4 : ClassId} (h : 1 ≤ xs 1 ∧ xs 1 ≤ 2147483646) {H : Heap} {locs : List Loc} {ls : Array Slot} (hh : kH D kStr e0 A s H (lwW e0 xa x1 x2 x3 x4 x5 g1 g2 g3 g4 h1 h2 h3 h4 h5 ma m1 m2 m3 m4 m5 m6 m7 m8 o1 o2 z1 z2 z3 z4) (lwT z1 z2 z3 z4) locs) (hl : lv_has ls 9 (lwL b xa ma o1 o2)) (kk : lwK p l e s m below meth c Q b A) : W p l e room_1 s m #[Value.ref b] below meth c H locs 100 10000 Q (F0 m 2852 ls []) := by
  have hh : kH D kStr e0 A s H [(xa, .inr (11, [.ref x1, .int 0, .ref x2, .int 0, .ref x3, .ref x4, .ref x5, .int 0])), (x3, .inr (9, [.ref g1, .int 0, .ref g2, .int 0, .ref g3, .ref g4])), (ma, .inr (16, [.int 0, .ref m1, .ref m2, .ref m3, .ref m4, .ref m5, .ref m6, .ref m7, .ref m8, .int 0, .int 0])), (m3, .inr (4, [.int 0, .ref e0.1, .int 0])), (o1, .inl (z3, 1, .inr (.inl (fun _ => 0))))] [(z3, .long)] _ := hh.sub [0, 1, 5, 8, 14] [2] rfl rfl rfl
  have hl : lv_has ls 9 [(5, .int 0), (4, .ref o2), (3, .ref o1), (2, .ref ma), (1, .ref xa), (0, .ref b)] := hl
  refine lv_aload_n hx hb dL_law_2852 rfl (lv_at hl 4 rfl) ?_
  refine lv_aload_n hx hb dL_law_2853 rfl (lv_at hl 5 rfl) ?_
  refine lv_iload hx hb dL_law_2854 (lv_at hl 0 rfl) ?_
  refine lv_iconst (v := 1) hx hb dL_law_2856 (by decide) ?_
  refine lv_iadd hx hb dL_law_2857 ?_
  refine W.eq (g2 := F0 m 2858 ls [.int 1, .ref b, .ref xa]) (by first | rfl | decide) ?_
  refine va_sld hx hb hX hbl hbA hh.2.2.2.1 (by unfold vp_in; decide) dL_law_2858 ?_
  refine W.eq (g2 := F0 m 2859 ls [.int (xs 1), .ref xa]) rfl ?_
  refine lv_aload_n hx hb dL_law_2859 rfl (lv_at hl 5 rfl) ?_
  refine lv_iload hx hb dL_law_2860 (lv_at hl 0 rfl) ?_
  refine lv_iconst (v := 2) hx hb dL_law_2862 (by decide) ?_
  refine lv_iadd hx hb dL_law_2863 ?_
  refine W.eq (g2 := F0 m 2864 ls [.int 2, .ref b, .int (xs 1), .ref xa]) (by first | rfl | decide) ?_
  refine va_sld hx hb hX hbl hbA hh.2.2.2.1 (by unfold vp_in; decide) dL_law_2864 ?_
  refine W.eq (g2 := F0 m 2865 ls [.int (xs 2), .int (xs 1), .ref xa]) rfl ?_
  refine lv_aload_n hx hb dL_law_2865 rfl (lv_at hl 2 rfl) ?_
  refine k_callSX (wr := [(ma, .inr (16, [.int 0, .ref m1, .ref m2, .ref m3, .ref m4, .ref m5, .ref m6, .ref m7, .ref m8, .int 0, .int 0])), (m3, .inr (4, [.int 0, .ref e0.1, .int 0]))]) (rest := []) (own := RL) ⟨hx, hb, hml, hown, hts⟩ (c_L_shuffled l hst D e0 xa x1 x2 x3 x4 x5 g1 g2 g3 g4 ((xs 1)) ((xs 2)) o1 z3 ((fun _ => 0)) h) (vx_cwSW 4 hts gl_S_c_L_shuffled rfl rfl rfl (by decide +kernel) ⟨Nat.le_of_ble_eq_true rfl, Nat.le_of_ble_eq_true rfl⟩) hh [0, 1, 4] [2, 3] [0] rfl rfl rfl rfl (by decide) rfl rfl hl rfl (Nat.le_of_ble_eq_true rfl) dL_law_2866 ⟨Nat.le_of_ble_eq_true rfl, (Nat.le_of_ble_eq_true rfl)⟩ (fun _ _ _ _ _ h => h.elim) (fun v w ty1 H locs hp hh => ?_)
  obtain ⟨rfl, rfl, rfl⟩ := hp
  have hh : kH D kStr e0 A s H [(ma, .inr (16, [.int 0, .ref m1, .ref m2, .ref m3, .ref m4, .ref m5, .ref m6, .ref m7, .ref m8, .int 0, .int 0])), (m3, .inr (4, [.int 0, .ref e0.1, .int 0])), (o1, .inl (z3, 1, .inr (.inl (fun _ => 0))))] [(z3, .long), (z3, .long)] _ := hh
  refine W.eq (g2 := F0 m 2869 ls [.int 2]) (by first | rfl | decide) ?_
  refine lv_istore (lv' := [(6, .int 2), (5, .int 0), (4, .ref o2), (3, .ref o1), (2, .ref ma), (1, .ref xa), (0, .ref b)]) hx hb dL_law_2869 hl (by decide) rfl (fun ls hl => ?_)
  refine lv_aload_n hx hb dL_law_2871 rfl (lv_at hl 4 rfl) ?_
  refine lv_aload_n hx hb dL_law_2872 rfl (lv_at hl 6 rfl) ?_
  refine lv_iload hx hb dL_law_2873 (lv_at hl 1 rfl) ?_
  refine lv_iconst (v := 1) hx hb dL_law_2875 (by decide) ?_
  refine lv_iadd hx hb dL_law_2876 ?_
  refine W.eq (g2 := F0 m 2877 ls [.int 1, .ref b, .ref ma]) (by first | rfl | decide) ?_
  refine va_sld hx hb hX hbl hbA hh.2.2.2.1 (by unfold vp_in; decide) dL_law_2877 ?_
  refine W.eq (g2 := F0 m 2878 ls [.int (xs 1), .ref ma]) rfl ?_
  refine lv_aload_n hx hb dL_law_2878 rfl (lv_at hl 6 rfl) ?_
  refine lv_iload hx hb dL_law_2879 (lv_at hl 1 rfl) ?_
  refine lv_iconst (v := 2) hx hb dL_law_2881 (by decide) ?_
  refine lv_iadd hx hb dL_law_2882 ?_
  refine W.eq (g2 := F0 m 2883 ls [.int 2, .ref b, .int (xs 1), .ref ma]) (by first | rfl | decide) ?_
  refine va_sld hx hb hX hbl hbA hh.2.2.2.1 (by unfold vp_in; decide) dL_law_2883 ?_
  refine W.eq (g2 := F0 m 2884 ls [.int (xs 2), .int (xs 1), .ref ma]) rfl ?_
  refine k_callV (C := RX11) (T := TX11) (N := 11) (ci := 16) (q0 := 0) (wr := [(o1, .inl (z3, 1, .inr (.inl (fun _ => 0))))]) (rest := []) (own := RL) ⟨hx, hb, hml, hown, hts⟩ (c_X11_shuffled l hst D e0 ma 0 m1 m2 m3 m4 m5 m6 m7 m8 ((xs 1)) ((xs 2)) h) (cwV 2 hts gl_V_c_X11_shuffled rfl rfl rfl (by decide +kernel) ⟨Nat.le_of_ble_eq_true rfl, Nat.le_of_ble_eq_true rfl⟩) hh rfl rfl [0, 1] [2] [] rfl rfl rfl rfl (by decide) rfl rfl hl rfl (Nat.le_of_ble_eq_true rfl) dL_law_2884 ⟨Nat.le_of_ble_eq_true rfl, (Nat.le_of_ble_eq_true rfl)⟩ (fun _ _ _ _ _ h => h.elim) (fun v w ty1 H locs hp hh => ?_)
  obtain ⟨rfl, rfl, rfl⟩ := hp
  have hh : kH D kStr e0 A s H [(o1, .inl (z3, 1, .inr (.inl (fun _ => 0)))), (ma, .inr (16, [.int 2, .ref m1, .ref m2, .ref m3, .ref m4, .ref m5, .ref m6, .ref m7, .ref m8, .int 0, .int 0]))] [(z3, .long), (z3, .long)] _ := hh
  refine W.eq (g2 := F0 m 2887 ls [.int 0]) (by first | rfl | decide) ?_
  refine lv_istore (lv' := [(7, .int 0), (6, .int 2), (5, .int 0), (4, .ref o2), (3, .ref o1), (2, .ref ma), (1, .ref xa), (0, .ref b)]) hx hb dL_law_2887 hl (by decide) rfl (fun ls hl => ?_)
  refine lv_aload_n hx hb dL_law_2889 rfl (lv_at hl 5 rfl) ?_
  refine k_callV (C := RX11) (T := TX11) (N := 11) (ci := 16) (q0 := 1) (wr := [(o1, .inl (z3, 1, .inr (.inl (fun _ => 0))))]) (rest := []) (own := RL) ⟨hx, hb, hml, hown, hts⟩ (c_X11_thrown l hst D e0 ma 2 m1 m2 m3 m4 m5 m6 m7 m8 ) (cwV 0 hts gl_V_c_X11_thrown rfl rfl rfl (by decide +kernel) ⟨Nat.le_of_ble_eq_true rfl, Nat.le_of_ble_eq_true rfl⟩) hh rfl rfl [1] [0] [] rfl rfl rfl rfl (by decide) rfl rfl hl rfl (Nat.le_of_ble_eq_true rfl) dL_law_2890 ⟨Nat.le_of_ble_eq_true rfl, (Nat.le_of_ble_eq_true rfl)⟩ (fun _ _ _ _ _ h => h.elim) (fun v w ty1 H locs hp hh => ?_)
  obtain ⟨rfl, rfl, rfl⟩ := hp
  have hh : kH D kStr e0 A s H [(o1, .inl (z3, 1, .inr (.inl (fun _ => 0)))), (ma, .inr (16, [.int 2, .ref m1, .ref m2, .ref m3, .ref m4, .ref m5, .ref m6, .ref m7, .ref m8, .int 0, .int 0]))] [(z3, .long), (z3, .long)] _ := hh
  refine W.eq (g2 := F0 m 2893 ls [.int 2]) (by first | rfl | decide) ?_
  refine lv_iload hx hb dL_law_2893 (lv_at hl 1 rfl) ?_
  refine lv_icmp_eq (tgt := 2900) hx hb dL_law_2895 (by decide) (fun _ => ?_) (fun c_2895 => absurd (by decide) c_2895)
  refine lv_iload hx hb dL_law_2900 (lv_at hl 1 rfl) ?_
  refine lv_if_ne (tgt := 2917) hx hb dL_law_2902 (by decide) (fun _ => ?_) (fun c_2902 => absurd c_2902 (by decide))
  refine lv_goto (tgt := 3429) hx hb dL_law_2917 (by decide) ?_
  refine W.widen (k := 1000) (n := 100000) (Nat.le_of_ble_eq_true rfl) (Nat.le_of_ble_eq_true rfl) ?_
  exact kk _ _ _ hh.2.2.2.1 (lv_sub hl [7, 2] rfl)
set_option maxHeartbeats 4000000 in
set_option maxRecDepth 100000 in
theorem law_40_bad {p : Program} {l : Launch} {e : Env} {s : State} {m : MethodId} {below : List Frame} {meth : Method} {c : Code} {Q : State → Prop} {b : Nat} {xs : Nat → Int32} {D : va_G} {e0 : kE} {A : Nat → Prop} (hst : l.stackTraces = false) (hx : p.tables.exec = Jvm.exec) (hb : c.code = cL_law) (hml : c.maxLocals = 9) (hts : ∀ w ∈ lw_tbl, w.before #[Value.ref b] s = true) (hown : s.vm.findClass RL = some m.cls) (hX : va_X b 5 xs s s.heap) (hbl : b < s.heap.size) (hbA : ¬ A b) {xa x1 x2 x3 x4 x5 g1 g2 g3 g4 h1 h2 h3 h4 h5 ma m1 m2 m3 m4 m5 m6 m7 m8 o1 o2 : Nat} {z1 z2 z3 z4 : ClassId} (h : ¬ (1 ≤ xs 1 ∧ xs 1 ≤ 2147483646)) {H : Heap} {locs : List Loc} {ls : Array Slot} (hh : kH D kStr e0 A s H (lwW e0 xa x1 x2 x3 x4 x5 g1 g2 g3 g4 h1 h2 h3 h4 h5 ma m1 m2 m3 m4 m5 m6 m7 m8 o1 o2 z1 z2 z3 z4) (lwT z1 z2 z3 z4) locs) (hl : lv_has ls 9 (lwL b xa ma o1 o2)) (kk : lwK p l e s m below meth c Q b A) : W p l e room_1 s m #[Value.ref b] below meth c H locs 100 10000 Q (F0 m 2852 ls []) := by
  have hh : kH D kStr e0 A s H [(xa, .inr (11, [.ref x1, .int 0, .ref x2, .int 0, .ref x3, .ref x4, .ref x5, .int 0])), (ma, .inr (16, [.int 0, .ref m1, .ref m2, .ref m3, .ref m4, .ref m5, .ref m6, .ref m7, .ref m8, .int 0, .int 0])), (o1, .inl (z3, 1, .inr (.inl (fun _ => 0))))] [(z3, .long)] _ := hh.sub [0, 5, 14] [2] rfl rfl rfl
  have hl : lv_has ls 9 [(5, .int 0), (4, .ref o2), (3, .ref o1), (2, .ref ma), (1, .ref xa), (0, .ref b)] := hl
  refine lv_aload_n hx hb dL_law_2852 rfl (lv_at hl 4 rfl) ?_
  refine lv_aload_n hx hb dL_law_2853 rfl (lv_at hl 5 rfl) ?_
  refine lv_iload hx hb dL_law_2854 (lv_at hl 0 rfl) ?_
  refine lv_iconst (v := 1) hx hb dL_law_2856 (by decide) ?_
  refine lv_iadd hx hb dL_law_2857 ?_
  refine W.eq (g2 := F0 m 2858 ls [.int 1, .ref b, .ref xa]) (by first | rfl | decide) ?_
  refine va_sld hx hb hX hbl hbA hh.2.2.2.1 (by unfold vp_in; decide) dL_law_2858 ?_
  refine W.eq (g2 := F0 m 2859 ls [.int (xs 1), .ref xa]) rfl ?_
  refine lv_aload_n hx hb dL_law_2859 rfl (lv_at hl 5 rfl) ?_
  refine lv_iload hx hb dL_law_2860 (lv_at hl 0 rfl) ?_
  refine lv_iconst (v := 2) hx hb dL_law_2862 (by decide) ?_
  refine lv_iadd hx hb dL_law_2863 ?_
  refine W.eq (g2 := F0 m 2864 ls [.int 2, .ref b, .int (xs 1), .ref xa]) (by first | rfl | decide) ?_
  refine va_sld hx hb hX hbl hbA hh.2.2.2.1 (by unfold vp_in; decide) dL_law_2864 ?_
  refine W.eq (g2 := F0 m 2865 ls [.int (xs 2), .int (xs 1), .ref xa]) rfl ?_
  refine lv_aload_n hx hb dL_law_2865 rfl (lv_at hl 2 rfl) ?_
  refine k_callSX (wr := [(ma, .inr (16, [.int 0, .ref m1, .ref m2, .ref m3, .ref m4, .ref m5, .ref m6, .ref m7, .ref m8, .int 0, .int 0]))]) (rest := []) (own := RL) ⟨hx, hb, hml, hown, hts⟩ (c_L_shuffled_bad l hst D e0 xa x1 x2 x3 x4 x5 ((xs 1)) ((xs 2)) o1 z3 ((fun _ => 0)) h) (vx_cwSW 4 hts gl_S_c_L_shuffled_bad rfl rfl rfl (by decide +kernel) ⟨Nat.le_of_ble_eq_true rfl, Nat.le_of_ble_eq_true rfl⟩) hh [0, 2] [1] [0] rfl rfl rfl rfl (by decide) rfl rfl hl rfl (Nat.le_of_ble_eq_true rfl) dL_law_2866 ⟨Nat.le_of_ble_eq_true rfl, (Nat.le_of_ble_eq_true rfl)⟩ (fun _ _ _ _ _ h => h.elim) (fun v w ty1 H locs hp hh => ?_)
  obtain ⟨rfl, rfl, rfl⟩ := hp
  have hh : kH D kStr e0 A s H [(ma, .inr (16, [.int 0, .ref m1, .ref m2, .ref m3, .ref m4, .ref m5, .ref m6, .ref m7, .ref m8, .int 0, .int 0])), (o1, .inl (z3, 1, .inr (.inl (fun _ => 0))))] [(z3, .long), (z3, .long)] _ := hh
  refine W.eq (g2 := F0 m 2869 ls [.int 1]) (by first | rfl | decide) ?_
  refine lv_istore (lv' := [(6, .int 1), (5, .int 0), (4, .ref o2), (3, .ref o1), (2, .ref ma), (1, .ref xa), (0, .ref b)]) hx hb dL_law_2869 hl (by decide) rfl (fun ls hl => ?_)
  refine lv_aload_n hx hb dL_law_2871 rfl (lv_at hl 4 rfl) ?_
  refine lv_aload_n hx hb dL_law_2872 rfl (lv_at hl 6 rfl) ?_
  refine lv_iload hx hb dL_law_2873 (lv_at hl 1 rfl) ?_
  refine lv_iconst (v := 1) hx hb dL_law_2875 (by decide) ?_
  refine lv_iadd hx hb dL_law_2876 ?_
  refine W.eq (g2 := F0 m 2877 ls [.int 1, .ref b, .ref ma]) (by first | rfl | decide) ?_
  refine va_sld hx hb hX hbl hbA hh.2.2.2.1 (by unfold vp_in; decide) dL_law_2877 ?_
  refine W.eq (g2 := F0 m 2878 ls [.int (xs 1), .ref ma]) rfl ?_
  refine lv_aload_n hx hb dL_law_2878 rfl (lv_at hl 6 rfl) ?_
  refine lv_iload hx hb dL_law_2879 (lv_at hl 1 rfl) ?_
  refine lv_iconst (v := 2) hx hb dL_law_2881 (by decide) ?_
  refine lv_iadd hx hb dL_law_2882 ?_
  refine W.eq (g2 := F0 m 2883 ls [.int 2, .ref b, .int (xs 1), .ref ma]) (by first | rfl | decide) ?_
  refine va_sld hx hb hX hbl hbA hh.2.2.2.1 (by unfold vp_in; decide) dL_law_2883 ?_
  refine W.eq (g2 := F0 m 2884 ls [.int (xs 2), .int (xs 1), .ref ma]) rfl ?_
  refine k_callV (C := RX11) (T := TX11) (N := 11) (ci := 16) (q0 := 0) (wr := [(o1, .inl (z3, 1, .inr (.inl (fun _ => 0))))]) (rest := []) (own := RL) ⟨hx, hb, hml, hown, hts⟩ (c_X11_shuffled_bad l hst D e0 ma 0 m1 m2 m3 m4 m5 m6 m7 m8 ((xs 1)) ((xs 2)) h) (cwV 2 hts gl_V_c_X11_shuffled_bad rfl rfl rfl (by decide +kernel) ⟨Nat.le_of_ble_eq_true rfl, Nat.le_of_ble_eq_true rfl⟩) hh rfl rfl [0] [1] [] rfl rfl rfl rfl (by decide) rfl rfl hl rfl (Nat.le_of_ble_eq_true rfl) dL_law_2884 ⟨Nat.le_of_ble_eq_true rfl, (Nat.le_of_ble_eq_true rfl)⟩ (fun _ _ _ _ _ h => h.elim) (fun v w ty1 H locs hp hh => ?_)
  obtain ⟨rfl, rfl, rfl⟩ := hp
  have hh : kH D kStr e0 A s H [(o1, .inl (z3, 1, .inr (.inl (fun _ => 0)))), (ma, .inr (16, [.int 1, .ref m1, .ref m2, .ref m3, .ref m4, .ref m5, .ref m6, .ref m7, .ref m8, .int 0, .int 0]))] [(z3, .long), (z3, .long)] _ := hh
  refine W.eq (g2 := F0 m 2887 ls [.int 0]) (by first | rfl | decide) ?_
  refine lv_istore (lv' := [(7, .int 0), (6, .int 1), (5, .int 0), (4, .ref o2), (3, .ref o1), (2, .ref ma), (1, .ref xa), (0, .ref b)]) hx hb dL_law_2887 hl (by decide) rfl (fun ls hl => ?_)
  refine lv_aload_n hx hb dL_law_2889 rfl (lv_at hl 5 rfl) ?_
  refine k_callV (C := RX11) (T := TX11) (N := 11) (ci := 16) (q0 := 1) (wr := [(o1, .inl (z3, 1, .inr (.inl (fun _ => 0))))]) (rest := []) (own := RL) ⟨hx, hb, hml, hown, hts⟩ (c_X11_thrown l hst D e0 ma 1 m1 m2 m3 m4 m5 m6 m7 m8 ) (cwV 0 hts gl_V_c_X11_thrown rfl rfl rfl (by decide +kernel) ⟨Nat.le_of_ble_eq_true rfl, Nat.le_of_ble_eq_true rfl⟩) hh rfl rfl [1] [0] [] rfl rfl rfl rfl (by decide) rfl rfl hl rfl (Nat.le_of_ble_eq_true rfl) dL_law_2890 ⟨Nat.le_of_ble_eq_true rfl, (Nat.le_of_ble_eq_true rfl)⟩ (fun _ _ _ _ _ h => h.elim) (fun v w ty1 H locs hp hh => ?_)
  obtain ⟨rfl, rfl, rfl⟩ := hp
  have hh : kH D kStr e0 A s H [(o1, .inl (z3, 1, .inr (.inl (fun _ => 0)))), (ma, .inr (16, [.int 1, .ref m1, .ref m2, .ref m3, .ref m4, .ref m5, .ref m6, .ref m7, .ref m8, .int 0, .int 0]))] [(z3, .long), (z3, .long)] _ := hh
  refine W.eq (g2 := F0 m 2893 ls [.int 1]) (by first | rfl | decide) ?_
  refine lv_iload hx hb dL_law_2893 (lv_at hl 1 rfl) ?_
  refine lv_icmp_eq (tgt := 2900) hx hb dL_law_2895 (by decide) (fun _ => ?_) (fun c_2895 => absurd (by decide) c_2895)
  refine lv_iload hx hb dL_law_2900 (lv_at hl 1 rfl) ?_
  refine lv_if_ne (tgt := 2917) hx hb dL_law_2902 (by decide) (fun _ => ?_) (fun c_2902 => absurd c_2902 (by decide))
  refine lv_goto (tgt := 3429) hx hb dL_law_2917 (by decide) ?_
  refine W.widen (k := 1000) (n := 100000) (Nat.le_of_ble_eq_true rfl) (Nat.le_of_ble_eq_true rfl) ?_
  exact kk _ _ _ hh.2.2.2.1 (lv_sub hl [7, 2] rfl)
set_option maxHeartbeats 4000000 in
set_option maxRecDepth 100000 in
theorem law_48 {p : Program} {l : Launch} {e : Env} {s : State} {m : MethodId} {below : List Frame} {meth : Method} {c : Code} {Q : State → Prop} {b : Nat} {xs : Nat → Int32} {D : va_G} {e0 : kE} {A : Nat → Prop} (hst : l.stackTraces = false) (hx : p.tables.exec = Jvm.exec) (hb : c.code = cL_law) (hml : c.maxLocals = 9) (hts : ∀ w ∈ lw_tbl, w.before #[Value.ref b] s = true) (hown : s.vm.findClass RL = some m.cls) (hX : va_X b 5 xs s s.heap) (hbl : b < s.heap.size) (hbA : ¬ A b) {xa x1 x2 x3 x4 x5 g1 g2 g3 g4 h1 h2 h3 h4 h5 ma m1 m2 m3 m4 m5 m6 m7 m8 o1 o2 : Nat} {z1 z2 z3 z4 : ClassId}  {H : Heap} {locs : List Loc} {ls : Array Slot} (hh : kH D kStr e0 A s H (lwW e0 xa x1 x2 x3 x4 x5 g1 g2 g3 g4 h1 h2 h3 h4 h5 ma m1 m2 m3 m4 m5 m6 m7 m8 o1 o2 z1 z2 z3 z4) (lwT z1 z2 z3 z4) locs) (hl : lv_has ls 9 (lwL b xa ma o1 o2)) (kk : lwK p l e s m below meth c Q b A) : W p l e room_1 s m #[Value.ref b] below meth c H locs 100 10000 Q (F0 m 3402 ls []) := by
  have hh : kH D kStr e0 A s H [(xa, .inr (11, [.ref x1, .int 0, .ref x2, .int 0, .ref x3, .ref x4, .ref x5, .int 0])), (x3, .inr (9, [.ref g1, .int 0, .ref g2, .int 0, .ref g3, .ref g4])), (x4, .inr (8, [.ref h1, .ref h2, .int 0, .ref h3, .int 0, .ref h4, .int 0, .ref h5, .int 0, .int 0, .int 0])), (ma, .inr (16, [.int 0, .ref m1, .ref m2, .ref m3, .ref m4, .ref m5, .ref m6, .ref m7, .ref m8, .int 0, .int 0])), (m2, .inr (4, [.int 0, .ref e0.1, .int 0])), (m3, .inr (4, [.int 0, .ref e0.1, .int 0])), (m4, .inr (4, [.int 0, .ref e0.1, .int 0])), (m7, .inr (4, [.int 0, .ref e0.1, .int 0])), (m8, .inr (4, [.int 0, .ref e0.1, .int 0]))] [] _ := hh.sub [0, 1, 2, 5, 7, 8, 9, 12, 13] [] rfl rfl rfl
  have hl : lv_has ls 9 [(5, .int 0), (4, .ref o2), (3, .ref o1), (2, .ref ma), (1, .ref xa), (0, .ref b)] := hl
  refine lv_aload_n hx hb dL_law_3402 rfl (lv_at hl 4 rfl) ?_
  refine k_callV (C := RX6) (T := TX6) (N := 8) (ci := 11) (q0 := 0) (wr := [(ma, .inr (16, [.int 0, .ref m1, .ref m2, .ref m3, .ref m4, .ref m5, .ref m6, .ref m7, .ref m8, .int 0, .int 0])), (m2, .inr (4, [.int 0, .ref e0.1, .int 0])), (m3, .inr (4, [.int 0, .ref e0.1, .int 0])), (m4, .inr (4, [.int 0, .ref e0.1, .int 0])), (m7, .inr (4, [.int 0, .ref e0.1, .int 0])), (m8, .inr (4, [.int 0, .ref e0.1, .int 0]))]) (rest := []) (own := RL) ⟨hx, hb, hml, hown, hts⟩ (c_X6_checksum l hst D e0 xa x1 x2 x3 x4 x5 g1 g2 g3 g4 h1 h2 h3 h4 h5 ) (cwV 0 hts gl_V_c_X6_checksum rfl rfl rfl (by decide +kernel) ⟨Nat.le_of_ble_eq_true rfl, Nat.le_of_ble_eq_true rfl⟩) hh rfl rfl [0, 1, 2] [3, 4, 5, 6, 7, 8] [] rfl rfl rfl rfl (by decide) rfl rfl hl rfl (Nat.le_of_ble_eq_true rfl) dL_law_3403 ⟨Nat.le_of_ble_eq_true rfl, (Nat.le_of_ble_eq_true rfl)⟩ (fun _ _ _ _ _ h => h.elim) (fun v w ty1 H locs hp hh => ?_)
  obtain ⟨rfl, rfl, rfl⟩ := hp
  have hh : kH D kStr e0 A s H [(ma, .inr (16, [.int 0, .ref m1, .ref m2, .ref m3, .ref m4, .ref m5, .ref m6, .ref m7, .ref m8, .int 0, .int 0])), (m2, .inr (4, [.int 0, .ref e0.1, .int 0])), (m3, .inr (4, [.int 0, .ref e0.1, .int 0])), (m4, .inr (4, [.int 0, .ref e0.1, .int 0])), (m7, .inr (4, [.int 0, .ref e0.1, .int 0])), (m8, .inr (4, [.int 0, .ref e0.1, .int 0]))] [] _ := hh
  refine W.eq (g2 := F0 m 3406 ls [.long 7]) (by first | rfl | decide) ?_
  refine lv_aload_n hx hb dL_law_3406 rfl (lv_at hl 3 rfl) ?_
  refine k_callV (C := RX11) (T := TX11) (N := 11) (ci := 16) (q0 := 0) (wr := []) (rest := [.long 7]) (own := RL) ⟨hx, hb, hml, hown, hts⟩ (c_X11_checksum l hst D e0 ma 0 m1 m2 m3 m4 m5 m6 m7 m8 ) (cwV 0 hts gl_V_c_X11_checksum rfl rfl rfl (by decide +kernel) ⟨Nat.le_of_ble_eq_true rfl, Nat.le_of_ble_eq_true rfl⟩) hh rfl rfl [0, 1, 2, 3, 4, 5] [] [] rfl rfl rfl rfl (by decide) rfl rfl hl rfl (Nat.le_of_ble_eq_true rfl) dL_law_3407 ⟨Nat.le_of_ble_eq_true rfl, (Nat.le_of_ble_eq_true rfl)⟩ (fun _ _ _ _ _ h => h.elim) (fun v w ty1 H locs hp hh => ?_)
  obtain ⟨rfl, rfl, rfl⟩ := hp
  have hh : kH D kStr e0 A s H [(ma, .inr (16, [.int 0, .ref m1, .ref m2, .ref m3, .ref m4, .ref m5, .ref m6, .ref m7, .ref m8, .int 0, .int 0]))] [] _ := hh
  refine W.eq (g2 := F0 m 3410 ls [.long 7, .long 7]) (by first | rfl | decide) ?_
  refine W.lcmp hx hb dL_law_3410 ?_
  refine W.eq (g2 := F0 m 3411 ls [.int 0]) (by rw [show lg_cmp (7 : Int64) (7 : Int64) = 0 from by decide]) ?_
  refine lv_if_eq (tgt := 3429) hx hb dL_law_3411 (by decide) (fun _ => ?_) (fun c_3411 => absurd (by decide) c_3411)
  refine W.widen (k := 1000) (n := 100000) (Nat.le_of_ble_eq_true rfl) (Nat.le_of_ble_eq_true rfl) ?_
  exact kk _ _ _ hh.2.2.2.1 (lv_sub hl [5, 0] rfl)
