theorem dL_law_304 : decode cL_law 304 = .ok (.aload_n 1, 1) := by decide +kernel
theorem dL_law_305 : decode cL_law 305 = .ok (.aload_n 0, 1) := by decide +kernel
theorem dL_law_306 : decode cL_law 306 = .ok (.iload 5, 2) := by decide +kernel
theorem dL_law_308 : decode cL_law 308 = .ok (.iconst 1, 1) := by decide +kernel
theorem dL_law_309 : decode cL_law 309 = .ok (.iadd, 1) := by decide +kernel
theorem dL_law_310 : decode cL_law 310 = .ok (.iaload, 1) := by decide +kernel
theorem dL_law_311 : decode cL_law 311 = .ok (.aload_n 0, 1) := by decide +kernel
theorem dL_law_312 : decode cL_law 312 = .ok (.iload 5, 2) := by decide +kernel
theorem dL_law_314 : decode cL_law 314 = .ok (.iconst 2, 1) := by decide +kernel
theorem dL_law_315 : decode cL_law 315 = .ok (.iadd, 1) := by decide +kernel
theorem dL_law_316 : decode cL_law 316 = .ok (.iaload, 1) := by decide +kernel
theorem dL_law_317 : decode cL_law 317 = .ok (.aload_n 3, 1) := by decide +kernel
theorem dL_law_318 : decode cL_law 318 = .ok (.invokestatic 186, 3) := by decide +kernel
theorem dL_law_321 : decode cL_law 321 = .ok (.istore 6, 2) := by decide +kernel
theorem dL_law_323 : decode cL_law 323 = .ok (.aload_n 2, 1) := by decide +kernel
theorem dL_law_324 : decode cL_law 324 = .ok (.aload_n 0, 1) := by decide +kernel
theorem dL_law_325 : decode cL_law 325 = .ok (.iload 5, 2) := by decide +kernel
theorem dL_law_327 : decode cL_law 327 = .ok (.iconst 1, 1) := by decide +kernel
theorem dL_law_328 : decode cL_law 328 = .ok (.iadd, 1) := by decide +kernel
theorem dL_law_329 : decode cL_law 329 = .ok (.iaload, 1) := by decide +kernel
theorem dL_law_330 : decode cL_law 330 = .ok (.aload_n 0, 1) := by decide +kernel
theorem dL_law_331 : decode cL_law 331 = .ok (.iload 5, 2) := by decide +kernel
theorem dL_law_333 : decode cL_law 333 = .ok (.iconst 2, 1) := by decide +kernel
theorem dL_law_334 : decode cL_law 334 = .ok (.iadd, 1) := by decide +kernel
theorem dL_law_335 : decode cL_law 335 = .ok (.iaload, 1) := by decide +kernel
theorem dL_law_336 : decode cL_law 336 = .ok (.invokevirtual 189, 3) := by decide +kernel
theorem dL_law_339 : decode cL_law 339 = .ok (.istore 7, 2) := by decide +kernel
theorem dL_law_341 : decode cL_law 341 = .ok (.aload_n 2, 1) := by decide +kernel
theorem dL_law_342 : decode cL_law 342 = .ok (.invokevirtual 183, 3) := by decide +kernel
theorem dL_law_345 : decode cL_law 345 = .ok (.iload 6, 2) := by decide +kernel
theorem dL_law_347 : decode cL_law 347 = .ok (.if_icmp .eq 5, 3) := by decide +kernel
theorem dL_law_352 : decode cL_law 352 = .ok (.iload 6, 2) := by decide +kernel
theorem dL_law_354 : decode cL_law 354 = .ok (.ifCond .ne 15, 3) := by decide +kernel
theorem dL_law_369 : decode cL_law 369 = .ok (.goto 3060, 3) := by decide +kernel
theorem dL_law_372 : decode cL_law 372 = .ok (.aload_n 1, 1) := by decide +kernel
theorem dL_law_373 : decode cL_law 373 = .ok (.aload_n 0, 1) := by decide +kernel
theorem dL_law_374 : decode cL_law 374 = .ok (.iload 5, 2) := by decide +kernel
theorem dL_law_376 : decode cL_law 376 = .ok (.iconst 1, 1) := by decide +kernel
theorem dL_law_377 : decode cL_law 377 = .ok (.iadd, 1) := by decide +kernel
theorem dL_law_378 : decode cL_law 378 = .ok (.iaload, 1) := by decide +kernel
theorem dL_law_379 : decode cL_law 379 = .ok (.aload_n 0, 1) := by decide +kernel
theorem dL_law_380 : decode cL_law 380 = .ok (.iload 5, 2) := by decide +kernel
theorem dL_law_382 : decode cL_law 382 = .ok (.iconst 2, 1) := by decide +kernel
theorem dL_law_383 : decode cL_law 383 = .ok (.iadd, 1) := by decide +kernel
theorem dL_law_384 : decode cL_law 384 = .ok (.iaload, 1) := by decide +kernel
theorem dL_law_385 : decode cL_law 385 = .ok (.aload_n 0, 1) := by decide +kernel
theorem dL_law_386 : decode cL_law 386 = .ok (.iload 5, 2) := by decide +kernel
theorem dL_law_388 : decode cL_law 388 = .ok (.iconst 3, 1) := by decide +kernel
theorem dL_law_389 : decode cL_law 389 = .ok (.iadd, 1) := by decide +kernel
theorem dL_law_390 : decode cL_law 390 = .ok (.iaload, 1) := by decide +kernel
theorem dL_law_391 : decode cL_law 391 = .ok (.aload_n 0, 1) := by decide +kernel
theorem dL_law_392 : decode cL_law 392 = .ok (.iload 5, 2) := by decide +kernel
theorem dL_law_394 : decode cL_law 394 = .ok (.iconst 4, 1) := by decide +kernel
theorem dL_law_395 : decode cL_law 395 = .ok (.iadd, 1) := by decide +kernel
theorem dL_law_396 : decode cL_law 396 = .ok (.iaload, 1) := by decide +kernel
theorem dL_law_397 : decode cL_law 397 = .ok (.aload_n 3, 1) := by decide +kernel
theorem dL_law_398 : decode cL_law 398 = .ok (.invokestatic 190, 3) := by decide +kernel
theorem dL_law_401 : decode cL_law 401 = .ok (.istore 6, 2) := by decide +kernel
theorem dL_law_403 : decode cL_law 403 = .ok (.aload_n 2, 1) := by decide +kernel
theorem dL_law_404 : decode cL_law 404 = .ok (.aload_n 0, 1) := by decide +kernel
theorem dL_law_405 : decode cL_law 405 = .ok (.iload 5, 2) := by decide +kernel
theorem dL_law_407 : decode cL_law 407 = .ok (.iconst 1, 1) := by decide +kernel
theorem dL_law_408 : decode cL_law 408 = .ok (.iadd, 1) := by decide +kernel
theorem dL_law_409 : decode cL_law 409 = .ok (.iaload, 1) := by decide +kernel
theorem dL_law_410 : decode cL_law 410 = .ok (.aload_n 0, 1) := by decide +kernel
theorem dL_law_411 : decode cL_law 411 = .ok (.iload 5, 2) := by decide +kernel
theorem dL_law_413 : decode cL_law 413 = .ok (.iconst 2, 1) := by decide +kernel
theorem dL_law_414 : decode cL_law 414 = .ok (.iadd, 1) := by decide +kernel
theorem dL_law_415 : decode cL_law 415 = .ok (.iaload, 1) := by decide +kernel
theorem dL_law_416 : decode cL_law 416 = .ok (.aload_n 0, 1) := by decide +kernel
theorem dL_law_417 : decode cL_law 417 = .ok (.iload 5, 2) := by decide +kernel
theorem dL_law_419 : decode cL_law 419 = .ok (.iconst 3, 1) := by decide +kernel
theorem dL_law_420 : decode cL_law 420 = .ok (.iadd, 1) := by decide +kernel
theorem dL_law_421 : decode cL_law 421 = .ok (.iaload, 1) := by decide +kernel
theorem dL_law_422 : decode cL_law 422 = .ok (.aload_n 0, 1) := by decide +kernel
theorem dL_law_423 : decode cL_law 423 = .ok (.iload 5, 2) := by decide +kernel
theorem dL_law_425 : decode cL_law 425 = .ok (.iconst 4, 1) := by decide +kernel
theorem dL_law_426 : decode cL_law 426 = .ok (.iadd, 1) := by decide +kernel
theorem dL_law_427 : decode cL_law 427 = .ok (.iaload, 1) := by decide +kernel
theorem dL_law_428 : decode cL_law 428 = .ok (.invokevirtual 193, 3) := by decide +kernel
theorem dL_law_431 : decode cL_law 431 = .ok (.istore 7, 2) := by decide +kernel
theorem dL_law_433 : decode cL_law 433 = .ok (.aload_n 2, 1) := by decide +kernel
theorem dL_law_434 : decode cL_law 434 = .ok (.invokevirtual 183, 3) := by decide +kernel
theorem dL_law_437 : decode cL_law 437 = .ok (.iload 6, 2) := by decide +kernel
theorem dL_law_439 : decode cL_law 439 = .ok (.if_icmp .eq 5, 3) := by decide +kernel
theorem dL_law_444 : decode cL_law 444 = .ok (.iload 6, 2) := by decide +kernel
theorem dL_law_446 : decode cL_law 446 = .ok (.ifCond .ne 15, 3) := by decide +kernel
theorem dL_law_461 : decode cL_law 461 = .ok (.goto 2968, 3) := by decide +kernel
theorem dL_law_464 : decode cL_law 464 = .ok (.aload_n 1, 1) := by decide +kernel
theorem dL_law_465 : decode cL_law 465 = .ok (.aload_n 0, 1) := by decide +kernel
theorem dL_law_466 : decode cL_law 466 = .ok (.iload 5, 2) := by decide +kernel
theorem dL_law_468 : decode cL_law 468 = .ok (.iconst 1, 1) := by decide +kernel
theorem dL_law_469 : decode cL_law 469 = .ok (.iadd, 1) := by decide +kernel
theorem dL_law_470 : decode cL_law 470 = .ok (.iaload, 1) := by decide +kernel
theorem dL_law_471 : decode cL_law 471 = .ok (.aload_n 3, 1) := by decide +kernel
theorem dL_law_472 : decode cL_law 472 = .ok (.invokestatic 194, 3) := by decide +kernel
theorem dL_law_475 : decode cL_law 475 = .ok (.istore 6, 2) := by decide +kernel
theorem dL_law_477 : decode cL_law 477 = .ok (.aload_n 2, 1) := by decide +kernel
theorem dL_law_478 : decode cL_law 478 = .ok (.aload_n 0, 1) := by decide +kernel
theorem dL_law_479 : decode cL_law 479 = .ok (.iload 5, 2) := by decide +kernel
theorem dL_law_481 : decode cL_law 481 = .ok (.iconst 1, 1) := by decide +kernel
theorem dL_law_482 : decode cL_law 482 = .ok (.iadd, 1) := by decide +kernel
theorem dL_law_483 : decode cL_law 483 = .ok (.iaload, 1) := by decide +kernel
theorem dL_law_484 : decode cL_law 484 = .ok (.invokevirtual 197, 3) := by decide +kernel
theorem dL_law_487 : decode cL_law 487 = .ok (.istore 7, 2) := by decide +kernel
theorem dL_law_489 : decode cL_law 489 = .ok (.aload_n 2, 1) := by decide +kernel
theorem dL_law_490 : decode cL_law 490 = .ok (.invokevirtual 183, 3) := by decide +kernel
theorem dL_law_493 : decode cL_law 493 = .ok (.iload 6, 2) := by decide +kernel
theorem dL_law_495 : decode cL_law 495 = .ok (.if_icmp .eq 5, 3) := by decide +kernel
theorem dL_law_500 : decode cL_law 500 = .ok (.iload 6, 2) := by decide +kernel
theorem dL_law_502 : decode cL_law 502 = .ok (.ifCond .ne 15, 3) := by decide +kernel
theorem dL_law_517 : decode cL_law 517 = .ok (.goto 2912, 3) := by decide +kernel
theorem dL_law_520 : decode cL_law 520 = .ok (.aload_n 1, 1) := by decide +kernel
theorem dL_law_521 : decode cL_law 521 = .ok (.aload_n 0, 1) := by decide +kernel
theorem dL_law_522 : decode cL_law 522 = .ok (.iload 5, 2) := by decide +kernel
theorem dL_law_524 : decode cL_law 524 = .ok (.iconst 1, 1) := by decide +kernel
theorem dL_law_525 : decode cL_law 525 = .ok (.iadd, 1) := by decide +kernel
theorem dL_law_526 : decode cL_law 526 = .ok (.iaload, 1) := by decide +kernel
theorem dL_law_527 : decode cL_law 527 = .ok (.aload_n 0, 1) := by decide +kernel
theorem dL_law_528 : decode cL_law 528 = .ok (.iload 5, 2) := by decide +kernel
theorem dL_law_530 : decode cL_law 530 = .ok (.iconst 2, 1) := by decide +kernel
theorem dL_law_531 : decode cL_law 531 = .ok (.iadd, 1) := by decide +kernel
theorem dL_law_532 : decode cL_law 532 = .ok (.iaload, 1) := by decide +kernel
theorem dL_law_533 : decode cL_law 533 = .ok (.aload_n 0, 1) := by decide +kernel
theorem dL_law_534 : decode cL_law 534 = .ok (.iload 5, 2) := by decide +kernel
theorem dL_law_536 : decode cL_law 536 = .ok (.iconst 3, 1) := by decide +kernel
theorem dL_law_537 : decode cL_law 537 = .ok (.iadd, 1) := by decide +kernel
theorem dL_law_538 : decode cL_law 538 = .ok (.iaload, 1) := by decide +kernel
theorem dL_law_539 : decode cL_law 539 = .ok (.aload_n 3, 1) := by decide +kernel
theorem dL_law_540 : decode cL_law 540 = .ok (.invokestatic 198, 3) := by decide +kernel
theorem dL_law_543 : decode cL_law 543 = .ok (.istore 6, 2) := by decide +kernel
theorem dL_law_545 : decode cL_law 545 = .ok (.aload_n 2, 1) := by decide +kernel
theorem dL_law_546 : decode cL_law 546 = .ok (.aload_n 0, 1) := by decide +kernel
theorem dL_law_547 : decode cL_law 547 = .ok (.iload 5, 2) := by decide +kernel
theorem dL_law_549 : decode cL_law 549 = .ok (.iconst 1, 1) := by decide +kernel
theorem dL_law_550 : decode cL_law 550 = .ok (.iadd, 1) := by decide +kernel
theorem dL_law_551 : decode cL_law 551 = .ok (.iaload, 1) := by decide +kernel
theorem dL_law_552 : decode cL_law 552 = .ok (.aload_n 0, 1) := by decide +kernel
theorem dL_law_553 : decode cL_law 553 = .ok (.iload 5, 2) := by decide +kernel
theorem dL_law_555 : decode cL_law 555 = .ok (.iconst 2, 1) := by decide +kernel
theorem dL_law_556 : decode cL_law 556 = .ok (.iadd, 1) := by decide +kernel
theorem dL_law_557 : decode cL_law 557 = .ok (.iaload, 1) := by decide +kernel
theorem dL_law_558 : decode cL_law 558 = .ok (.aload_n 0, 1) := by decide +kernel
theorem dL_law_559 : decode cL_law 559 = .ok (.iload 5, 2) := by decide +kernel
theorem dL_law_561 : decode cL_law 561 = .ok (.iconst 3, 1) := by decide +kernel
theorem dL_law_562 : decode cL_law 562 = .ok (.iadd, 1) := by decide +kernel
theorem dL_law_563 : decode cL_law 563 = .ok (.iaload, 1) := by decide +kernel
theorem dL_law_564 : decode cL_law 564 = .ok (.invokevirtual 201, 3) := by decide +kernel
theorem dL_law_567 : decode cL_law 567 = .ok (.istore 7, 2) := by decide +kernel
theorem dL_law_569 : decode cL_law 569 = .ok (.aload_n 2, 1) := by decide +kernel
theorem dL_law_570 : decode cL_law 570 = .ok (.invokevirtual 183, 3) := by decide +kernel
theorem dL_law_573 : decode cL_law 573 = .ok (.iload 6, 2) := by decide +kernel
theorem dL_law_575 : decode cL_law 575 = .ok (.if_icmp .eq 5, 3) := by decide +kernel
theorem dL_law_580 : decode cL_law 580 = .ok (.iload 6, 2) := by decide +kernel
theorem dL_law_582 : decode cL_law 582 = .ok (.ifCond .ne 15, 3) := by decide +kernel
theorem dL_law_597 : decode cL_law 597 = .ok (.goto 2832, 3) := by decide +kernel
theorem dL_law_656 : decode cL_law 656 = .ok (.aload_n 1, 1) := by decide +kernel
theorem dL_law_657 : decode cL_law 657 = .ok (.aload_n 0, 1) := by decide +kernel
theorem dL_law_658 : decode cL_law 658 = .ok (.iload 5, 2) := by decide +kernel
theorem dL_law_660 : decode cL_law 660 = .ok (.iconst 1, 1) := by decide +kernel
theorem dL_law_661 : decode cL_law 661 = .ok (.iadd, 1) := by decide +kernel
theorem dL_law_662 : decode cL_law 662 = .ok (.iaload, 1) := by decide +kernel
theorem dL_law_663 : decode cL_law 663 = .ok (.aload_n 0, 1) := by decide +kernel
theorem dL_law_664 : decode cL_law 664 = .ok (.iload 5, 2) := by decide +kernel
theorem dL_law_666 : decode cL_law 666 = .ok (.iconst 2, 1) := by decide +kernel
theorem dL_law_667 : decode cL_law 667 = .ok (.iadd, 1) := by decide +kernel
theorem dL_law_668 : decode cL_law 668 = .ok (.iaload, 1) := by decide +kernel
theorem dL_law_669 : decode cL_law 669 = .ok (.aload_n 0, 1) := by decide +kernel
theorem dL_law_670 : decode cL_law 670 = .ok (.iload 5, 2) := by decide +kernel
theorem dL_law_672 : decode cL_law 672 = .ok (.iconst 3, 1) := by decide +kernel
theorem dL_law_673 : decode cL_law 673 = .ok (.iadd, 1) := by decide +kernel
theorem dL_law_674 : decode cL_law 674 = .ok (.iaload, 1) := by decide +kernel
theorem dL_law_675 : decode cL_law 675 = .ok (.aload_n 3, 1) := by decide +kernel
theorem dL_law_676 : decode cL_law 676 = .ok (.invokestatic 205, 3) := by decide +kernel
theorem dL_law_679 : decode cL_law 679 = .ok (.istore 6, 2) := by decide +kernel
theorem dL_law_681 : decode cL_law 681 = .ok (.aload_n 2, 1) := by decide +kernel
theorem dL_law_682 : decode cL_law 682 = .ok (.aload_n 0, 1) := by decide +kernel
theorem dL_law_683 : decode cL_law 683 = .ok (.iload 5, 2) := by decide +kernel
theorem dL_law_685 : decode cL_law 685 = .ok (.iconst 1, 1) := by decide +kernel
theorem dL_law_686 : decode cL_law 686 = .ok (.iadd, 1) := by decide +kernel
theorem dL_law_687 : decode cL_law 687 = .ok (.iaload, 1) := by decide +kernel
theorem dL_law_688 : decode cL_law 688 = .ok (.aload_n 0, 1) := by decide +kernel
theorem dL_law_689 : decode cL_law 689 = .ok (.iload 5, 2) := by decide +kernel
theorem dL_law_691 : decode cL_law 691 = .ok (.iconst 2, 1) := by decide +kernel
theorem dL_law_692 : decode cL_law 692 = .ok (.iadd, 1) := by decide +kernel
theorem dL_law_693 : decode cL_law 693 = .ok (.iaload, 1) := by decide +kernel
theorem dL_law_694 : decode cL_law 694 = .ok (.aload_n 0, 1) := by decide +kernel
theorem dL_law_695 : decode cL_law 695 = .ok (.iload 5, 2) := by decide +kernel
theorem dL_law_697 : decode cL_law 697 = .ok (.iconst 3, 1) := by decide +kernel
theorem dL_law_698 : decode cL_law 698 = .ok (.iadd, 1) := by decide +kernel
theorem dL_law_699 : decode cL_law 699 = .ok (.iaload, 1) := by decide +kernel
theorem dL_law_700 : decode cL_law 700 = .ok (.invokevirtual 207, 3) := by decide +kernel
theorem dL_law_703 : decode cL_law 703 = .ok (.istore 7, 2) := by decide +kernel
theorem dL_law_705 : decode cL_law 705 = .ok (.aload_n 2, 1) := by decide +kernel
theorem dL_law_706 : decode cL_law 706 = .ok (.invokevirtual 183, 3) := by decide +kernel
theorem dL_law_709 : decode cL_law 709 = .ok (.iload 6, 2) := by decide +kernel
theorem dL_law_711 : decode cL_law 711 = .ok (.if_icmp .eq 5, 3) := by decide +kernel
theorem dL_law_716 : decode cL_law 716 = .ok (.iload 6, 2) := by decide +kernel
theorem dL_law_718 : decode cL_law 718 = .ok (.ifCond .ne 15, 3) := by decide +kernel
theorem dL_law_733 : decode cL_law 733 = .ok (.goto 2696, 3) := by decide +kernel
theorem dL_law_736 : decode cL_law 736 = .ok (.aload_n 1, 1) := by decide +kernel
theorem dL_law_737 : decode cL_law 737 = .ok (.aload_n 0, 1) := by decide +kernel
theorem dL_law_738 : decode cL_law 738 = .ok (.iload 5, 2) := by decide +kernel
theorem dL_law_740 : decode cL_law 740 = .ok (.iconst 1, 1) := by decide +kernel
theorem dL_law_741 : decode cL_law 741 = .ok (.iadd, 1) := by decide +kernel
theorem dL_law_742 : decode cL_law 742 = .ok (.iaload, 1) := by decide +kernel
theorem dL_law_743 : decode cL_law 743 = .ok (.aload_n 0, 1) := by decide +kernel
theorem dL_law_744 : decode cL_law 744 = .ok (.iload 5, 2) := by decide +kernel
theorem dL_law_746 : decode cL_law 746 = .ok (.iconst 2, 1) := by decide +kernel
theorem dL_law_747 : decode cL_law 747 = .ok (.iadd, 1) := by decide +kernel
theorem dL_law_748 : decode cL_law 748 = .ok (.iaload, 1) := by decide +kernel
theorem dL_law_749 : decode cL_law 749 = .ok (.aload_n 3, 1) := by decide +kernel
theorem dL_law_750 : decode cL_law 750 = .ok (.invokestatic 208, 3) := by decide +kernel
theorem dL_law_753 : decode cL_law 753 = .ok (.istore 6, 2) := by decide +kernel
theorem dL_law_755 : decode cL_law 755 = .ok (.aload_n 2, 1) := by decide +kernel
theorem dL_law_756 : decode cL_law 756 = .ok (.aload_n 0, 1) := by decide +kernel
theorem dL_law_757 : decode cL_law 757 = .ok (.iload 5, 2) := by decide +kernel
theorem dL_law_759 : decode cL_law 759 = .ok (.iconst 1, 1) := by decide +kernel
theorem dL_law_760 : decode cL_law 760 = .ok (.iadd, 1) := by decide +kernel
theorem dL_law_761 : decode cL_law 761 = .ok (.iaload, 1) := by decide +kernel
theorem dL_law_762 : decode cL_law 762 = .ok (.aload_n 0, 1) := by decide +kernel
theorem dL_law_763 : decode cL_law 763 = .ok (.iload 5, 2) := by decide +kernel
theorem dL_law_765 : decode cL_law 765 = .ok (.iconst 2, 1) := by decide +kernel
theorem dL_law_766 : decode cL_law 766 = .ok (.iadd, 1) := by decide +kernel
theorem dL_law_767 : decode cL_law 767 = .ok (.iaload, 1) := by decide +kernel
theorem dL_law_768 : decode cL_law 768 = .ok (.invokevirtual 210, 3) := by decide +kernel
theorem dL_law_771 : decode cL_law 771 = .ok (.istore 7, 2) := by decide +kernel
theorem dL_law_773 : decode cL_law 773 = .ok (.aload_n 2, 1) := by decide +kernel
theorem dL_law_774 : decode cL_law 774 = .ok (.invokevirtual 183, 3) := by decide +kernel
theorem dL_law_777 : decode cL_law 777 = .ok (.iload 6, 2) := by decide +kernel
theorem dL_law_779 : decode cL_law 779 = .ok (.if_icmp .eq 5, 3) := by decide +kernel
theorem dL_law_784 : decode cL_law 784 = .ok (.iload 6, 2) := by decide +kernel
theorem dL_law_786 : decode cL_law 786 = .ok (.ifCond .ne 15, 3) := by decide +kernel
theorem dL_law_801 : decode cL_law 801 = .ok (.goto 2628, 3) := by decide +kernel
theorem dL_law_804 : decode cL_law 804 = .ok (.aload_n 1, 1) := by decide +kernel
theorem dL_law_805 : decode cL_law 805 = .ok (.aload_n 0, 1) := by decide +kernel
theorem dL_law_806 : decode cL_law 806 = .ok (.iload 5, 2) := by decide +kernel
theorem dL_law_808 : decode cL_law 808 = .ok (.iconst 1, 1) := by decide +kernel
theorem dL_law_809 : decode cL_law 809 = .ok (.iadd, 1) := by decide +kernel
theorem dL_law_810 : decode cL_law 810 = .ok (.iaload, 1) := by decide +kernel
theorem dL_law_811 : decode cL_law 811 = .ok (.aload_n 3, 1) := by decide +kernel
theorem dL_law_812 : decode cL_law 812 = .ok (.invokestatic 211, 3) := by decide +kernel
theorem dL_law_815 : decode cL_law 815 = .ok (.istore 6, 2) := by decide +kernel
theorem dL_law_817 : decode cL_law 817 = .ok (.aload_n 2, 1) := by decide +kernel
theorem dL_law_818 : decode cL_law 818 = .ok (.aload_n 0, 1) := by decide +kernel
theorem dL_law_819 : decode cL_law 819 = .ok (.iload 5, 2) := by decide +kernel
theorem dL_law_821 : decode cL_law 821 = .ok (.iconst 1, 1) := by decide +kernel
theorem dL_law_822 : decode cL_law 822 = .ok (.iadd, 1) := by decide +kernel
theorem dL_law_823 : decode cL_law 823 = .ok (.iaload, 1) := by decide +kernel
theorem dL_law_824 : decode cL_law 824 = .ok (.invokevirtual 213, 3) := by decide +kernel
theorem dL_law_827 : decode cL_law 827 = .ok (.istore 7, 2) := by decide +kernel
theorem dL_law_829 : decode cL_law 829 = .ok (.aload_n 2, 1) := by decide +kernel
theorem dL_law_830 : decode cL_law 830 = .ok (.invokevirtual 183, 3) := by decide +kernel
theorem dL_law_833 : decode cL_law 833 = .ok (.iload 6, 2) := by decide +kernel
theorem dL_law_835 : decode cL_law 835 = .ok (.if_icmp .eq 5, 3) := by decide +kernel
theorem dL_law_840 : decode cL_law 840 = .ok (.iload 6, 2) := by decide +kernel
theorem dL_law_842 : decode cL_law 842 = .ok (.ifCond .ne 15, 3) := by decide +kernel
theorem dL_law_857 : decode cL_law 857 = .ok (.goto 2572, 3) := by decide +kernel
theorem dL_law_860 : decode cL_law 860 = .ok (.aload_n 1, 1) := by decide +kernel
theorem dL_law_861 : decode cL_law 861 = .ok (.aload_n 0, 1) := by decide +kernel
theorem dL_law_862 : decode cL_law 862 = .ok (.iload 5, 2) := by decide +kernel
theorem dL_law_864 : decode cL_law 864 = .ok (.iconst 1, 1) := by decide +kernel
theorem dL_law_865 : decode cL_law 865 = .ok (.iadd, 1) := by decide +kernel
theorem dL_law_866 : decode cL_law 866 = .ok (.iaload, 1) := by decide +kernel
theorem dL_law_867 : decode cL_law 867 = .ok (.aload_n 0, 1) := by decide +kernel
theorem dL_law_868 : decode cL_law 868 = .ok (.iload 5, 2) := by decide +kernel
theorem dL_law_870 : decode cL_law 870 = .ok (.iconst 2, 1) := by decide +kernel
theorem dL_law_871 : decode cL_law 871 = .ok (.iadd, 1) := by decide +kernel
theorem dL_law_872 : decode cL_law 872 = .ok (.iaload, 1) := by decide +kernel
theorem dL_law_873 : decode cL_law 873 = .ok (.aload_n 0, 1) := by decide +kernel
theorem dL_law_874 : decode cL_law 874 = .ok (.iload 5, 2) := by decide +kernel
theorem dL_law_876 : decode cL_law 876 = .ok (.iconst 3, 1) := by decide +kernel
theorem dL_law_877 : decode cL_law 877 = .ok (.iadd, 1) := by decide +kernel
theorem dL_law_878 : decode cL_law 878 = .ok (.iaload, 1) := by decide +kernel
theorem dL_law_879 : decode cL_law 879 = .ok (.aload_n 0, 1) := by decide +kernel
theorem dL_law_880 : decode cL_law 880 = .ok (.iload 5, 2) := by decide +kernel
theorem dL_law_882 : decode cL_law 882 = .ok (.iconst 4, 1) := by decide +kernel
theorem dL_law_883 : decode cL_law 883 = .ok (.iadd, 1) := by decide +kernel
theorem dL_law_884 : decode cL_law 884 = .ok (.iaload, 1) := by decide +kernel
theorem dL_law_885 : decode cL_law 885 = .ok (.aload_n 3, 1) := by decide +kernel
theorem dL_law_886 : decode cL_law 886 = .ok (.invokestatic 214, 3) := by decide +kernel
theorem dL_law_889 : decode cL_law 889 = .ok (.istore 6, 2) := by decide +kernel
theorem dL_law_891 : decode cL_law 891 = .ok (.aload_n 2, 1) := by decide +kernel
theorem dL_law_892 : decode cL_law 892 = .ok (.aload_n 0, 1) := by decide +kernel
theorem dL_law_893 : decode cL_law 893 = .ok (.iload 5, 2) := by decide +kernel
theorem dL_law_895 : decode cL_law 895 = .ok (.iconst 1, 1) := by decide +kernel
theorem dL_law_896 : decode cL_law 896 = .ok (.iadd, 1) := by decide +kernel
theorem dL_law_897 : decode cL_law 897 = .ok (.iaload, 1) := by decide +kernel
theorem dL_law_898 : decode cL_law 898 = .ok (.aload_n 0, 1) := by decide +kernel
theorem dL_law_899 : decode cL_law 899 = .ok (.iload 5, 2) := by decide +kernel
theorem dL_law_901 : decode cL_law 901 = .ok (.iconst 2, 1) := by decide +kernel
theorem dL_law_902 : decode cL_law 902 = .ok (.iadd, 1) := by decide +kernel
theorem dL_law_903 : decode cL_law 903 = .ok (.iaload, 1) := by decide +kernel
theorem dL_law_904 : decode cL_law 904 = .ok (.aload_n 0, 1) := by decide +kernel
theorem dL_law_905 : decode cL_law 905 = .ok (.iload 5, 2) := by decide +kernel
theorem dL_law_907 : decode cL_law 907 = .ok (.iconst 3, 1) := by decide +kernel
theorem dL_law_908 : decode cL_law 908 = .ok (.iadd, 1) := by decide +kernel
theorem dL_law_909 : decode cL_law 909 = .ok (.iaload, 1) := by decide +kernel
theorem dL_law_910 : decode cL_law 910 = .ok (.aload_n 0, 1) := by decide +kernel
theorem dL_law_911 : decode cL_law 911 = .ok (.iload 5, 2) := by decide +kernel
theorem dL_law_913 : decode cL_law 913 = .ok (.iconst 4, 1) := by decide +kernel
theorem dL_law_914 : decode cL_law 914 = .ok (.iadd, 1) := by decide +kernel
theorem dL_law_915 : decode cL_law 915 = .ok (.iaload, 1) := by decide +kernel
theorem dL_law_916 : decode cL_law 916 = .ok (.invokevirtual 216, 3) := by decide +kernel
theorem dL_law_919 : decode cL_law 919 = .ok (.istore 7, 2) := by decide +kernel
theorem dL_law_921 : decode cL_law 921 = .ok (.aload_n 2, 1) := by decide +kernel
theorem dL_law_922 : decode cL_law 922 = .ok (.invokevirtual 183, 3) := by decide +kernel
theorem dL_law_925 : decode cL_law 925 = .ok (.iload 6, 2) := by decide +kernel
theorem dL_law_927 : decode cL_law 927 = .ok (.if_icmp .eq 5, 3) := by decide +kernel
theorem dL_law_932 : decode cL_law 932 = .ok (.iload 6, 2) := by decide +kernel
theorem dL_law_934 : decode cL_law 934 = .ok (.ifCond .ne 15, 3) := by decide +kernel
theorem dL_law_949 : decode cL_law 949 = .ok (.goto 2480, 3) := by decide +kernel
theorem dL_law_952 : decode cL_law 952 = .ok (.aload_n 1, 1) := by decide +kernel
theorem dL_law_953 : decode cL_law 953 = .ok (.aload_n 0, 1) := by decide +kernel
theorem dL_law_954 : decode cL_law 954 = .ok (.iload 5, 2) := by decide +kernel
theorem dL_law_956 : decode cL_law 956 = .ok (.iconst 1, 1) := by decide +kernel
theorem dL_law_957 : decode cL_law 957 = .ok (.iadd, 1) := by decide +kernel
theorem dL_law_958 : decode cL_law 958 = .ok (.iaload, 1) := by decide +kernel
theorem dL_law_959 : decode cL_law 959 = .ok (.aload_n 0, 1) := by decide +kernel
theorem dL_law_960 : decode cL_law 960 = .ok (.iload 5, 2) := by decide +kernel
theorem dL_law_962 : decode cL_law 962 = .ok (.iconst 2, 1) := by decide +kernel
theorem dL_law_963 : decode cL_law 963 = .ok (.iadd, 1) := by decide +kernel
theorem dL_law_964 : decode cL_law 964 = .ok (.iaload, 1) := by decide +kernel
theorem dL_law_965 : decode cL_law 965 = .ok (.aload_n 0, 1) := by decide +kernel
theorem dL_law_966 : decode cL_law 966 = .ok (.iload 5, 2) := by decide +kernel
theorem dL_law_968 : decode cL_law 968 = .ok (.iconst 3, 1) := by decide +kernel
theorem dL_law_969 : decode cL_law 969 = .ok (.iadd, 1) := by decide +kernel
theorem dL_law_970 : decode cL_law 970 = .ok (.iaload, 1) := by decide +kernel
theorem dL_law_971 : decode cL_law 971 = .ok (.aload_n 3, 1) := by decide +kernel
theorem dL_law_972 : decode cL_law 972 = .ok (.invokestatic 217, 3) := by decide +kernel
theorem dL_law_975 : decode cL_law 975 = .ok (.istore 6, 2) := by decide +kernel
theorem dL_law_977 : decode cL_law 977 = .ok (.aload_n 2, 1) := by decide +kernel
theorem dL_law_978 : decode cL_law 978 = .ok (.aload_n 0, 1) := by decide +kernel
theorem dL_law_979 : decode cL_law 979 = .ok (.iload 5, 2) := by decide +kernel
theorem dL_law_981 : decode cL_law 981 = .ok (.iconst 1, 1) := by decide +kernel
theorem dL_law_982 : decode cL_law 982 = .ok (.iadd, 1) := by decide +kernel
theorem dL_law_983 : decode cL_law 983 = .ok (.iaload, 1) := by decide +kernel
theorem dL_law_984 : decode cL_law 984 = .ok (.aload_n 0, 1) := by decide +kernel
theorem dL_law_985 : decode cL_law 985 = .ok (.iload 5, 2) := by decide +kernel
theorem dL_law_987 : decode cL_law 987 = .ok (.iconst 2, 1) := by decide +kernel
theorem dL_law_988 : decode cL_law 988 = .ok (.iadd, 1) := by decide +kernel
theorem dL_law_989 : decode cL_law 989 = .ok (.iaload, 1) := by decide +kernel
theorem dL_law_990 : decode cL_law 990 = .ok (.aload_n 0, 1) := by decide +kernel
theorem dL_law_991 : decode cL_law 991 = .ok (.iload 5, 2) := by decide +kernel
theorem dL_law_993 : decode cL_law 993 = .ok (.iconst 3, 1) := by decide +kernel
theorem dL_law_994 : decode cL_law 994 = .ok (.iadd, 1) := by decide +kernel
theorem dL_law_995 : decode cL_law 995 = .ok (.iaload, 1) := by decide +kernel
theorem dL_law_996 : decode cL_law 996 = .ok (.invokevirtual 219, 3) := by decide +kernel
theorem dL_law_999 : decode cL_law 999 = .ok (.istore 7, 2) := by decide +kernel
theorem dL_law_1001 : decode cL_law 1001 = .ok (.aload_n 2, 1) := by decide +kernel
theorem dL_law_1002 : decode cL_law 1002 = .ok (.invokevirtual 183, 3) := by decide +kernel
theorem dL_law_1005 : decode cL_law 1005 = .ok (.iload 6, 2) := by decide +kernel
theorem dL_law_1007 : decode cL_law 1007 = .ok (.if_icmp .eq 5, 3) := by decide +kernel
theorem dL_law_1012 : decode cL_law 1012 = .ok (.iload 6, 2) := by decide +kernel
theorem dL_law_1014 : decode cL_law 1014 = .ok (.ifCond .ne 15, 3) := by decide +kernel
theorem dL_law_1029 : decode cL_law 1029 = .ok (.goto 2400, 3) := by decide +kernel
set_option maxHeartbeats 4000000 in
set_option maxRecDepth 100000 in
theorem law_1 {p : Program} {l : Launch} {e : Env} {s : State} {m : MethodId} {below : List Frame} {meth : Method} {c : Code} {Q : State → Prop} {b : Nat} {xs : Nat → Int32} {D : va_G} {e0 : kE} {A : Nat → Prop} (hst : l.stackTraces = false) (hx : p.tables.exec = Jvm.exec) (hb : c.code = cL_law) (hml : c.maxLocals = 9) (hts : ∀ w ∈ lw_tbl, w.before #[Value.ref b] s = true) (hown : s.vm.findClass RL = some m.cls) (hX : va_X b 5 xs s s.heap) (hbl : b < s.heap.size) (hbA : ¬ A b) {xa x1 x2 x3 x4 x5 g1 g2 g3 g4 h1 h2 h3 h4 h5 ma m1 m2 m3 m4 m5 m6 m7 m8 o1 o2 : Nat} {z1 z2 z3 z4 : ClassId}  {H : Heap} {locs : List Loc} {ls : Array Slot} (hh : kH D kStr e0 A s H (lwW e0 xa x1 x2 x3 x4 x5 g1 g2 g3 g4 h1 h2 h3 h4 h5 ma m1 m2 m3 m4 m5 m6 m7 m8 o1 o2 z1 z2 z3 z4) (lwT z1 z2 z3 z4) locs) (hl : lv_has ls 9 (lwL b xa ma o1 o2)) (kk : lwK p l e s m below meth c Q b A) : W p l e room_1 s m #[Value.ref b] below meth c H locs 100 10000 Q (F0 m 304 ls []) := by
  have hh : kH D kStr e0 A s H [(xa, .inr (11, [.ref x1, .int 0, .ref x2, .int 0, .ref x3, .ref x4, .ref x5, .int 0])), (ma, .inr (16, [.int 0, .ref m1, .ref m2, .ref m3, .ref m4, .ref m5, .ref m6, .ref m7, .ref m8, .int 0, .int 0])), (m1, .inr (4, [.int 0, .ref e0.1, .int 0])), (o1, .inl (z3, 1, .inr (.inl (fun _ => 0))))] [(z3, .long)] _ := hh.sub [0, 5, 6, 14] [2] rfl rfl rfl
  have hl : lv_has ls 9 [(5, .int 0), (4, .ref o2), (3, .ref o1), (2, .ref ma), (1, .ref xa), (0, .ref b)] := hl
  refine lv_aload_n hx hb dL_law_304 rfl (lv_at hl 4 rfl) ?_
  refine lv_aload_n hx hb dL_law_305 rfl (lv_at hl 5 rfl) ?_
  refine lv_iload hx hb dL_law_306 (lv_at hl 0 rfl) ?_
  refine lv_iconst (v := 1) hx hb dL_law_308 (by decide) ?_
  refine lv_iadd hx hb dL_law_309 ?_
  refine W.eq (g2 := F0 m 310 ls [.int 1, .ref b, .ref xa]) (by first | rfl | decide) ?_
  refine va_sld hx hb hX hbl hbA hh.2.2.2.1 (by unfold vp_in; decide) dL_law_310 ?_
  refine W.eq (g2 := F0 m 311 ls [.int (xs 1), .ref xa]) rfl ?_
  refine lv_aload_n hx hb dL_law_311 rfl (lv_at hl 5 rfl) ?_
  refine lv_iload hx hb dL_law_312 (lv_at hl 0 rfl) ?_
  refine lv_iconst (v := 2) hx hb dL_law_314 (by decide) ?_
  refine lv_iadd hx hb dL_law_315 ?_
  refine W.eq (g2 := F0 m 316 ls [.int 2, .ref b, .int (xs 1), .ref xa]) (by first | rfl | decide) ?_
  refine va_sld hx hb hX hbl hbA hh.2.2.2.1 (by unfold vp_in; decide) dL_law_316 ?_
  refine W.eq (g2 := F0 m 317 ls [.int (xs 2), .int (xs 1), .ref xa]) rfl ?_
  refine lv_aload_n hx hb dL_law_317 rfl (lv_at hl 2 rfl) ?_
  refine k_callSX (wr := [(ma, .inr (16, [.int 0, .ref m1, .ref m2, .ref m3, .ref m4, .ref m5, .ref m6, .ref m7, .ref m8, .int 0, .int 0])), (m1, .inr (4, [.int 0, .ref e0.1, .int 0]))]) (rest := []) (own := RL) ⟨hx, hb, hml, hown, hts⟩ (c_L_sample l hst D e0 xa x1 x2 x3 x4 x5 ((xs 1)) ((xs 2)) o1 z3 ((fun _ => 0)) ) (vx_cwSW 4 hts gl_S_c_L_sample rfl rfl rfl (by decide +kernel) ⟨Nat.le_of_ble_eq_true rfl, Nat.le_of_ble_eq_true rfl⟩) hh [0, 3] [1, 2] [0] rfl rfl rfl rfl (by decide) rfl rfl hl rfl (Nat.le_of_ble_eq_true rfl) dL_law_318 ⟨Nat.le_of_ble_eq_true rfl, (Nat.le_of_ble_eq_true rfl)⟩ (fun _ _ _ _ _ h => h.elim) (fun v w ty1 H locs hp hh => ?_)
  obtain ⟨rfl, rfl, rfl⟩ := hp
  have hh : kH D kStr e0 A s H [(ma, .inr (16, [.int 0, .ref m1, .ref m2, .ref m3, .ref m4, .ref m5, .ref m6, .ref m7, .ref m8, .int 0, .int 0])), (m1, .inr (4, [.int 0, .ref e0.1, .int 0])), (o1, .inl (z3, 1, .inr (.inl (fun _ => 0))))] [(z3, .long), (z3, .long)] _ := hh
  refine W.eq (g2 := F0 m 321 ls [.int 1]) (by first | rfl | decide) ?_
  refine lv_istore (lv' := [(6, .int 1), (5, .int 0), (4, .ref o2), (3, .ref o1), (2, .ref ma), (1, .ref xa), (0, .ref b)]) hx hb dL_law_321 hl (by decide) rfl (fun ls hl => ?_)
  refine lv_aload_n hx hb dL_law_323 rfl (lv_at hl 4 rfl) ?_
  refine lv_aload_n hx hb dL_law_324 rfl (lv_at hl 6 rfl) ?_
  refine lv_iload hx hb dL_law_325 (lv_at hl 1 rfl) ?_
  refine lv_iconst (v := 1) hx hb dL_law_327 (by decide) ?_
  refine lv_iadd hx hb dL_law_328 ?_
  refine W.eq (g2 := F0 m 329 ls [.int 1, .ref b, .ref ma]) (by first | rfl | decide) ?_
  refine va_sld hx hb hX hbl hbA hh.2.2.2.1 (by unfold vp_in; decide) dL_law_329 ?_
  refine W.eq (g2 := F0 m 330 ls [.int (xs 1), .ref ma]) rfl ?_
  refine lv_aload_n hx hb dL_law_330 rfl (lv_at hl 6 rfl) ?_
  refine lv_iload hx hb dL_law_331 (lv_at hl 1 rfl) ?_
  refine lv_iconst (v := 2) hx hb dL_law_333 (by decide) ?_
  refine lv_iadd hx hb dL_law_334 ?_
  refine W.eq (g2 := F0 m 335 ls [.int 2, .ref b, .int (xs 1), .ref ma]) (by first | rfl | decide) ?_
  refine va_sld hx hb hX hbl hbA hh.2.2.2.1 (by unfold vp_in; decide) dL_law_335 ?_
  refine W.eq (g2 := F0 m 336 ls [.int (xs 2), .int (xs 1), .ref ma]) rfl ?_
  refine k_callV (C := RX11) (T := TX11) (N := 11) (ci := 16) (q0 := 0) (wr := [(o1, .inl (z3, 1, .inr (.inl (fun _ => 0))))]) (rest := []) (own := RL) ⟨hx, hb, hml, hown, hts⟩ (c_X11_sample l hst D e0 ma 0 m1 m2 m3 m4 m5 m6 m7 m8 ((xs 1)) ((xs 2)) ) (cwV 2 hts gl_V_c_X11_sample rfl rfl rfl (by decide +kernel) ⟨Nat.le_of_ble_eq_true rfl, Nat.le_of_ble_eq_true rfl⟩) hh rfl rfl [0, 1] [2] [] rfl rfl rfl rfl (by decide) rfl rfl hl rfl (Nat.le_of_ble_eq_true rfl) dL_law_336 ⟨Nat.le_of_ble_eq_true rfl, (Nat.le_of_ble_eq_true rfl)⟩ (fun _ _ _ _ _ h => h.elim) (fun v w ty1 H locs hp hh => ?_)
  obtain ⟨rfl, rfl, rfl⟩ := hp
  have hh : kH D kStr e0 A s H [(o1, .inl (z3, 1, .inr (.inl (fun _ => 0)))), (ma, .inr (16, [.int 1, .ref m1, .ref m2, .ref m3, .ref m4, .ref m5, .ref m6, .ref m7, .ref m8, .int 0, .int 0]))] [(z3, .long), (z3, .long)] _ := hh
  refine W.eq (g2 := F0 m 339 ls [.int 0]) (by first | rfl | decide) ?_
  refine lv_istore (lv' := [(7, .int 0), (6, .int 1), (5, .int 0), (4, .ref o2), (3, .ref o1), (2, .ref ma), (1, .ref xa), (0, .ref b)]) hx hb dL_law_339 hl (by decide) rfl (fun ls hl => ?_)
  refine lv_aload_n hx hb dL_law_341 rfl (lv_at hl 5 rfl) ?_
  refine k_callV (C := RX11) (T := TX11) (N := 11) (ci := 16) (q0 := 1) (wr := [(o1, .inl (z3, 1, .inr (.inl (fun _ => 0))))]) (rest := []) (own := RL) ⟨hx, hb, hml, hown, hts⟩ (c_X11_thrown l hst D e0 ma 1 m1 m2 m3 m4 m5 m6 m7 m8 ) (cwV 0 hts gl_V_c_X11_thrown rfl rfl rfl (by decide +kernel) ⟨Nat.le_of_ble_eq_true rfl, Nat.le_of_ble_eq_true rfl⟩) hh rfl rfl [1] [0] [] rfl rfl rfl rfl (by decide) rfl rfl hl rfl (Nat.le_of_ble_eq_true rfl) dL_law_342 ⟨Nat.le_of_ble_eq_true rfl, (Nat.le_of_ble_eq_true rfl)⟩ (fun _ _ _ _ _ h => h.elim) (fun v w ty1 H locs hp hh => ?_)
  obtain ⟨rfl, rfl, rfl⟩ := hp
  have hh : kH D kStr e0 A s H [(o1, .inl (z3, 1, .inr (.inl (fun _ => 0)))), (ma, .inr (16, [.int 1, .ref m1, .ref m2, .ref m3, .ref m4, .ref m5, .ref m6, .ref m7, .ref m8, .int 0, .int 0]))] [(z3, .long), (z3, .long)] _ := hh
  refine W.eq (g2 := F0 m 345 ls [.int 1]) (by first | rfl | decide) ?_
  refine lv_iload hx hb dL_law_345 (lv_at hl 1 rfl) ?_
  refine lv_icmp_eq (tgt := 352) hx hb dL_law_347 (by decide) (fun _ => ?_) (fun c_347 => absurd (by decide) c_347)
  refine lv_iload hx hb dL_law_352 (lv_at hl 1 rfl) ?_
  refine lv_if_ne (tgt := 369) hx hb dL_law_354 (by decide) (fun _ => ?_) (fun c_354 => absurd c_354 (by decide))
  refine lv_goto (tgt := 3429) hx hb dL_law_369 (by decide) ?_
  refine W.widen (k := 1000) (n := 100000) (Nat.le_of_ble_eq_true rfl) (Nat.le_of_ble_eq_true rfl) ?_
  exact kk _ _ _ hh.2.2.2.1 (lv_sub hl [7, 2] rfl)
set_option maxHeartbeats 4000000 in
set_option maxRecDepth 100000 in
theorem law_2 {p : Program} {l : Launch} {e : Env} {s : State} {m : MethodId} {below : List Frame} {meth : Method} {c : Code} {Q : State → Prop} {b : Nat} {xs : Nat → Int32} {D : va_G} {e0 : kE} {A : Nat → Prop} (hst : l.stackTraces = false) (hx : p.tables.exec = Jvm.exec) (hb : c.code = cL_law) (hml : c.maxLocals = 9) (hts : ∀ w ∈ lw_tbl, w.before #[Value.ref b] s = true) (hown : s.vm.findClass RL = some m.cls) (hX : va_X b 5 xs s s.heap) (hbl : b < s.heap.size) (hbA : ¬ A b) {xa x1 x2 x3 x4 x5 g1 g2 g3 g4 h1 h2 h3 h4 h5 ma m1 m2 m3 m4 m5 m6 m7 m8 o1 o2 : Nat} {z1 z2 z3 z4 : ClassId}  {H : Heap} {locs : List Loc} {ls : Array Slot} (hh : kH D kStr e0 A s H (lwW e0 xa x1 x2 x3 x4 x5 g1 g2 g3 g4 h1 h2 h3 h4 h5 ma m1 m2 m3 m4 m5 m6 m7 m8 o1 o2 z1 z2 z3 z4) (lwT z1 z2 z3 z4) locs) (hl : lv_has ls 9 (lwL b xa ma o1 o2)) (kk : lwK p l e s m below meth c Q b A) : W p l e room_1 s m #[Value.ref b] below meth c H locs 100 10000 Q (F0 m 372 ls []) := by
  have hh : kH D kStr e0 A s H [(xa, .inr (11, [.ref x1, .int 0, .ref x2, .int 0, .ref x3, .ref x4, .ref x5, .int 0])), (ma, .inr (16, [.int 0, .ref m1, .ref m2, .ref m3, .ref m4, .ref m5, .ref m6, .ref m7, .ref m8, .int 0, .int 0])), (m1, .inr (4, [.int 0, .ref e0.1, .int 0])), (o1, .inl (z3, 1, .inr (.inl (fun _ => 0))))] [(z3, .long)] _ := hh.sub [0, 5, 6, 14] [2] rfl rfl rfl
  have hl : lv_has ls 9 [(5, .int 0), (4, .ref o2), (3, .ref o1), (2, .ref ma), (1, .ref xa), (0, .ref b)] := hl
  refine lv_aload_n hx hb dL_law_372 rfl (lv_at hl 4 rfl) ?_
  refine lv_aload_n hx hb dL_law_373 rfl (lv_at hl 5 rfl) ?_
  refine lv_iload hx hb dL_law_374 (lv_at hl 0 rfl) ?_
  refine lv_iconst (v := 1) hx hb dL_law_376 (by decide) ?_
  refine lv_iadd hx hb dL_law_377 ?_
  refine W.eq (g2 := F0 m 378 ls [.int 1, .ref b, .ref xa]) (by first | rfl | decide) ?_
  refine va_sld hx hb hX hbl hbA hh.2.2.2.1 (by unfold vp_in; decide) dL_law_378 ?_
  refine W.eq (g2 := F0 m 379 ls [.int (xs 1), .ref xa]) rfl ?_
  refine lv_aload_n hx hb dL_law_379 rfl (lv_at hl 5 rfl) ?_
  refine lv_iload hx hb dL_law_380 (lv_at hl 0 rfl) ?_
  refine lv_iconst (v := 2) hx hb dL_law_382 (by decide) ?_
  refine lv_iadd hx hb dL_law_383 ?_
  refine W.eq (g2 := F0 m 384 ls [.int 2, .ref b, .int (xs 1), .ref xa]) (by first | rfl | decide) ?_
  refine va_sld hx hb hX hbl hbA hh.2.2.2.1 (by unfold vp_in; decide) dL_law_384 ?_
  refine W.eq (g2 := F0 m 385 ls [.int (xs 2), .int (xs 1), .ref xa]) rfl ?_
  refine lv_aload_n hx hb dL_law_385 rfl (lv_at hl 5 rfl) ?_
  refine lv_iload hx hb dL_law_386 (lv_at hl 0 rfl) ?_
  refine lv_iconst (v := 3) hx hb dL_law_388 (by decide) ?_
  refine lv_iadd hx hb dL_law_389 ?_
  refine W.eq (g2 := F0 m 390 ls [.int 3, .ref b, .int (xs 2), .int (xs 1), .ref xa]) (by first | rfl | decide) ?_
  refine va_sld hx hb hX hbl hbA hh.2.2.2.1 (by unfold vp_in; decide) dL_law_390 ?_
  refine W.eq (g2 := F0 m 391 ls [.int (xs 3), .int (xs 2), .int (xs 1), .ref xa]) rfl ?_
  refine lv_aload_n hx hb dL_law_391 rfl (lv_at hl 5 rfl) ?_
  refine lv_iload hx hb dL_law_392 (lv_at hl 0 rfl) ?_
  refine lv_iconst (v := 4) hx hb dL_law_394 (by decide) ?_
  refine lv_iadd hx hb dL_law_395 ?_
  refine W.eq (g2 := F0 m 396 ls [.int 4, .ref b, .int (xs 3), .int (xs 2), .int (xs 1), .ref xa]) (by first | rfl | decide) ?_
  refine va_sld hx hb hX hbl hbA hh.2.2.2.1 (by unfold vp_in; decide) dL_law_396 ?_
  refine W.eq (g2 := F0 m 397 ls [.int (xs 4), .int (xs 3), .int (xs 2), .int (xs 1), .ref xa]) rfl ?_
  refine lv_aload_n hx hb dL_law_397 rfl (lv_at hl 2 rfl) ?_
  refine k_callSX (wr := [(ma, .inr (16, [.int 0, .ref m1, .ref m2, .ref m3, .ref m4, .ref m5, .ref m6, .ref m7, .ref m8, .int 0, .int 0])), (m1, .inr (4, [.int 0, .ref e0.1, .int 0]))]) (rest := []) (own := RL) ⟨hx, hb, hml, hown, hts⟩ (c_L_wave l hst D e0 xa x1 x2 x3 x4 x5 ((xs 1)) ((xs 2)) ((xs 3)) ((xs 4)) o1 z3 ((fun _ => 0)) ) (vx_cwSW 6 hts gl_S_c_L_wave rfl rfl rfl (by decide +kernel) ⟨Nat.le_of_ble_eq_true rfl, Nat.le_of_ble_eq_true rfl⟩) hh [0, 3] [1, 2] [0] rfl rfl rfl rfl (by decide) rfl rfl hl rfl (Nat.le_of_ble_eq_true rfl) dL_law_398 ⟨Nat.le_of_ble_eq_true rfl, (Nat.le_of_ble_eq_true rfl)⟩ (fun _ _ _ _ _ h => h.elim) (fun v w ty1 H locs hp hh => ?_)
  obtain ⟨rfl, rfl, rfl⟩ := hp
  have hh : kH D kStr e0 A s H [(ma, .inr (16, [.int 0, .ref m1, .ref m2, .ref m3, .ref m4, .ref m5, .ref m6, .ref m7, .ref m8, .int 0, .int 0])), (m1, .inr (4, [.int 0, .ref e0.1, .int 0])), (o1, .inl (z3, 1, .inr (.inl (fun _ => 0))))] [(z3, .long), (z3, .long)] _ := hh
  refine W.eq (g2 := F0 m 401 ls [.int 1]) (by first | rfl | decide) ?_
  refine lv_istore (lv' := [(6, .int 1), (5, .int 0), (4, .ref o2), (3, .ref o1), (2, .ref ma), (1, .ref xa), (0, .ref b)]) hx hb dL_law_401 hl (by decide) rfl (fun ls hl => ?_)
  refine lv_aload_n hx hb dL_law_403 rfl (lv_at hl 4 rfl) ?_
  refine lv_aload_n hx hb dL_law_404 rfl (lv_at hl 6 rfl) ?_
  refine lv_iload hx hb dL_law_405 (lv_at hl 1 rfl) ?_
  refine lv_iconst (v := 1) hx hb dL_law_407 (by decide) ?_
  refine lv_iadd hx hb dL_law_408 ?_
  refine W.eq (g2 := F0 m 409 ls [.int 1, .ref b, .ref ma]) (by first | rfl | decide) ?_
  refine va_sld hx hb hX hbl hbA hh.2.2.2.1 (by unfold vp_in; decide) dL_law_409 ?_
  refine W.eq (g2 := F0 m 410 ls [.int (xs 1), .ref ma]) rfl ?_
  refine lv_aload_n hx hb dL_law_410 rfl (lv_at hl 6 rfl) ?_
  refine lv_iload hx hb dL_law_411 (lv_at hl 1 rfl) ?_
  refine lv_iconst (v := 2) hx hb dL_law_413 (by decide) ?_
  refine lv_iadd hx hb dL_law_414 ?_
  refine W.eq (g2 := F0 m 415 ls [.int 2, .ref b, .int (xs 1), .ref ma]) (by first | rfl | decide) ?_
  refine va_sld hx hb hX hbl hbA hh.2.2.2.1 (by unfold vp_in; decide) dL_law_415 ?_
  refine W.eq (g2 := F0 m 416 ls [.int (xs 2), .int (xs 1), .ref ma]) rfl ?_
  refine lv_aload_n hx hb dL_law_416 rfl (lv_at hl 6 rfl) ?_
  refine lv_iload hx hb dL_law_417 (lv_at hl 1 rfl) ?_
  refine lv_iconst (v := 3) hx hb dL_law_419 (by decide) ?_
  refine lv_iadd hx hb dL_law_420 ?_
  refine W.eq (g2 := F0 m 421 ls [.int 3, .ref b, .int (xs 2), .int (xs 1), .ref ma]) (by first | rfl | decide) ?_
  refine va_sld hx hb hX hbl hbA hh.2.2.2.1 (by unfold vp_in; decide) dL_law_421 ?_
  refine W.eq (g2 := F0 m 422 ls [.int (xs 3), .int (xs 2), .int (xs 1), .ref ma]) rfl ?_
  refine lv_aload_n hx hb dL_law_422 rfl (lv_at hl 6 rfl) ?_
  refine lv_iload hx hb dL_law_423 (lv_at hl 1 rfl) ?_
  refine lv_iconst (v := 4) hx hb dL_law_425 (by decide) ?_
  refine lv_iadd hx hb dL_law_426 ?_
  refine W.eq (g2 := F0 m 427 ls [.int 4, .ref b, .int (xs 3), .int (xs 2), .int (xs 1), .ref ma]) (by first | rfl | decide) ?_
  refine va_sld hx hb hX hbl hbA hh.2.2.2.1 (by unfold vp_in; decide) dL_law_427 ?_
  refine W.eq (g2 := F0 m 428 ls [.int (xs 4), .int (xs 3), .int (xs 2), .int (xs 1), .ref ma]) rfl ?_
  refine k_callV (C := RX11) (T := TX11) (N := 11) (ci := 16) (q0 := 0) (wr := [(o1, .inl (z3, 1, .inr (.inl (fun _ => 0))))]) (rest := []) (own := RL) ⟨hx, hb, hml, hown, hts⟩ (c_X11_wave l hst D e0 ma 0 m1 m2 m3 m4 m5 m6 m7 m8 ((xs 1)) ((xs 2)) ((xs 3)) ((xs 4)) ) (cwV 4 hts gl_V_c_X11_wave rfl rfl rfl (by decide +kernel) ⟨Nat.le_of_ble_eq_true rfl, Nat.le_of_ble_eq_true rfl⟩) hh rfl rfl [0, 1] [2] [] rfl rfl rfl rfl (by decide) rfl rfl hl rfl (Nat.le_of_ble_eq_true rfl) dL_law_428 ⟨Nat.le_of_ble_eq_true rfl, (Nat.le_of_ble_eq_true rfl)⟩ (fun _ _ _ _ _ h => h.elim) (fun v w ty1 H locs hp hh => ?_)
  obtain ⟨rfl, rfl, rfl⟩ := hp
  have hh : kH D kStr e0 A s H [(o1, .inl (z3, 1, .inr (.inl (fun _ => 0)))), (ma, .inr (16, [.int 1, .ref m1, .ref m2, .ref m3, .ref m4, .ref m5, .ref m6, .ref m7, .ref m8, .int 0, .int 0]))] [(z3, .long), (z3, .long)] _ := hh
  refine W.eq (g2 := F0 m 431 ls [.int 0]) (by first | rfl | decide) ?_
  refine lv_istore (lv' := [(7, .int 0), (6, .int 1), (5, .int 0), (4, .ref o2), (3, .ref o1), (2, .ref ma), (1, .ref xa), (0, .ref b)]) hx hb dL_law_431 hl (by decide) rfl (fun ls hl => ?_)
  refine lv_aload_n hx hb dL_law_433 rfl (lv_at hl 5 rfl) ?_
  refine k_callV (C := RX11) (T := TX11) (N := 11) (ci := 16) (q0 := 1) (wr := [(o1, .inl (z3, 1, .inr (.inl (fun _ => 0))))]) (rest := []) (own := RL) ⟨hx, hb, hml, hown, hts⟩ (c_X11_thrown l hst D e0 ma 1 m1 m2 m3 m4 m5 m6 m7 m8 ) (cwV 0 hts gl_V_c_X11_thrown rfl rfl rfl (by decide +kernel) ⟨Nat.le_of_ble_eq_true rfl, Nat.le_of_ble_eq_true rfl⟩) hh rfl rfl [1] [0] [] rfl rfl rfl rfl (by decide) rfl rfl hl rfl (Nat.le_of_ble_eq_true rfl) dL_law_434 ⟨Nat.le_of_ble_eq_true rfl, (Nat.le_of_ble_eq_true rfl)⟩ (fun _ _ _ _ _ h => h.elim) (fun v w ty1 H locs hp hh => ?_)
  obtain ⟨rfl, rfl, rfl⟩ := hp
  have hh : kH D kStr e0 A s H [(o1, .inl (z3, 1, .inr (.inl (fun _ => 0)))), (ma, .inr (16, [.int 1, .ref m1, .ref m2, .ref m3, .ref m4, .ref m5, .ref m6, .ref m7, .ref m8, .int 0, .int 0]))] [(z3, .long), (z3, .long)] _ := hh
  refine W.eq (g2 := F0 m 437 ls [.int 1]) (by first | rfl | decide) ?_
  refine lv_iload hx hb dL_law_437 (lv_at hl 1 rfl) ?_
  refine lv_icmp_eq (tgt := 444) hx hb dL_law_439 (by decide) (fun _ => ?_) (fun c_439 => absurd (by decide) c_439)
  refine lv_iload hx hb dL_law_444 (lv_at hl 1 rfl) ?_
  refine lv_if_ne (tgt := 461) hx hb dL_law_446 (by decide) (fun _ => ?_) (fun c_446 => absurd c_446 (by decide))
  refine lv_goto (tgt := 3429) hx hb dL_law_461 (by decide) ?_
  refine W.widen (k := 1000) (n := 100000) (Nat.le_of_ble_eq_true rfl) (Nat.le_of_ble_eq_true rfl) ?_
  exact kk _ _ _ hh.2.2.2.1 (lv_sub hl [7, 2] rfl)
set_option maxHeartbeats 4000000 in
set_option maxRecDepth 100000 in
theorem law_3 {p : Program} {l : Launch} {e : Env} {s : State} {m : MethodId} {below : List Frame} {meth : Method} {c : Code} {Q : State → Prop} {b : Nat} {xs : Nat → Int32} {D : va_G} {e0 : kE} {A : Nat → Prop} (hst : l.stackTraces = false) (hx : p.tables.exec = Jvm.exec) (hb : c.code = cL_law) (hml : c.maxLocals = 9) (hts : ∀ w ∈ lw_tbl, w.before #[Value.ref b] s = true) (hown : s.vm.findClass RL = some m.cls) (hX : va_X b 5 xs s s.heap) (hbl : b < s.heap.size) (hbA : ¬ A b) {xa x1 x2 x3 x4 x5 g1 g2 g3 g4 h1 h2 h3 h4 h5 ma m1 m2 m3 m4 m5 m6 m7 m8 o1 o2 : Nat} {z1 z2 z3 z4 : ClassId}  {H : Heap} {locs : List Loc} {ls : Array Slot} (hh : kH D kStr e0 A s H (lwW e0 xa x1 x2 x3 x4 x5 g1 g2 g3 g4 h1 h2 h3 h4 h5 ma m1 m2 m3 m4 m5 m6 m7 m8 o1 o2 z1 z2 z3 z4) (lwT z1 z2 z3 z4) locs) (hl : lv_has ls 9 (lwL b xa ma o1 o2)) (kk : lwK p l e s m below meth c Q b A) : W p l e room_1 s m #[Value.ref b] below meth c H locs 100 10000 Q (F0 m 464 ls []) := by
  have hh : kH D kStr e0 A s H [(xa, .inr (11, [.ref x1, .int 0, .ref x2, .int 0, .ref x3, .ref x4, .ref x5, .int 0])), (ma, .inr (16, [.int 0, .ref m1, .ref m2, .ref m3, .ref m4, .ref m5, .ref m6, .ref m7, .ref m8, .int 0, .int 0])), (m1, .inr (4, [.int 0, .ref e0.1, .int 0])), (o1, .inl (z3, 1, .inr (.inl (fun _ => 0))))] [(z3, .long)] _ := hh.sub [0, 5, 6, 14] [2] rfl rfl rfl
  have hl : lv_has ls 9 [(5, .int 0), (4, .ref o2), (3, .ref o1), (2, .ref ma), (1, .ref xa), (0, .ref b)] := hl
  refine lv_aload_n hx hb dL_law_464 rfl (lv_at hl 4 rfl) ?_
  refine lv_aload_n hx hb dL_law_465 rfl (lv_at hl 5 rfl) ?_
  refine lv_iload hx hb dL_law_466 (lv_at hl 0 rfl) ?_
  refine lv_iconst (v := 1) hx hb dL_law_468 (by decide) ?_
  refine lv_iadd hx hb dL_law_469 ?_
  refine W.eq (g2 := F0 m 470 ls [.int 1, .ref b, .ref xa]) (by first | rfl | decide) ?_
  refine va_sld hx hb hX hbl hbA hh.2.2.2.1 (by unfold vp_in; decide) dL_law_470 ?_
  refine W.eq (g2 := F0 m 471 ls [.int (xs 1), .ref xa]) rfl ?_
  refine lv_aload_n hx hb dL_law_471 rfl (lv_at hl 2 rfl) ?_
  refine k_callSX (wr := [(ma, .inr (16, [.int 0, .ref m1, .ref m2, .ref m3, .ref m4, .ref m5, .ref m6, .ref m7, .ref m8, .int 0, .int 0])), (m1, .inr (4, [.int 0, .ref e0.1, .int 0]))]) (rest := []) (own := RL) ⟨hx, hb, hml, hown, hts⟩ (c_L_reelLength l hst D e0 xa x1 x2 x3 x4 x5 ((xs 1)) o1 z3 ((fun _ => 0)) ) (vx_cwSW 3 hts gl_S_c_L_reelLength rfl rfl rfl (by decide +kernel) ⟨Nat.le_of_ble_eq_true rfl, Nat.le_of_ble_eq_true rfl⟩) hh [0, 3] [1, 2] [0] rfl rfl rfl rfl (by decide) rfl rfl hl rfl (Nat.le_of_ble_eq_true rfl) dL_law_472 ⟨Nat.le_of_ble_eq_true rfl, (Nat.le_of_ble_eq_true rfl)⟩ (fun _ _ _ _ _ h => h.elim) (fun v w ty1 H locs hp hh => ?_)
  obtain ⟨rfl, rfl, rfl⟩ := hp
  have hh : kH D kStr e0 A s H [(ma, .inr (16, [.int 0, .ref m1, .ref m2, .ref m3, .ref m4, .ref m5, .ref m6, .ref m7, .ref m8, .int 0, .int 0])), (m1, .inr (4, [.int 0, .ref e0.1, .int 0])), (o1, .inl (z3, 1, .inr (.inl (fun _ => 0))))] [(z3, .long), (z3, .long)] _ := hh
  refine W.eq (g2 := F0 m 475 ls [.int 1]) (by first | rfl | decide) ?_
  refine lv_istore (lv' := [(6, .int 1), (5, .int 0), (4, .ref o2), (3, .ref o1), (2, .ref ma), (1, .ref xa), (0, .ref b)]) hx hb dL_law_475 hl (by decide) rfl (fun ls hl => ?_)
  refine lv_aload_n hx hb dL_law_477 rfl (lv_at hl 4 rfl) ?_
  refine lv_aload_n hx hb dL_law_478 rfl (lv_at hl 6 rfl) ?_
  refine lv_iload hx hb dL_law_479 (lv_at hl 1 rfl) ?_
  refine lv_iconst (v := 1) hx hb dL_law_481 (by decide) ?_
  refine lv_iadd hx hb dL_law_482 ?_
  refine W.eq (g2 := F0 m 483 ls [.int 1, .ref b, .ref ma]) (by first | rfl | decide) ?_
  refine va_sld hx hb hX hbl hbA hh.2.2.2.1 (by unfold vp_in; decide) dL_law_483 ?_
  refine W.eq (g2 := F0 m 484 ls [.int (xs 1), .ref ma]) rfl ?_
  refine k_callV (C := RX11) (T := TX11) (N := 11) (ci := 16) (q0 := 0) (wr := [(o1, .inl (z3, 1, .inr (.inl (fun _ => 0))))]) (rest := []) (own := RL) ⟨hx, hb, hml, hown, hts⟩ (c_X11_reelLength l hst D e0 ma 0 m1 m2 m3 m4 m5 m6 m7 m8 ((xs 1)) ) (cwV 1 hts gl_V_c_X11_reelLength rfl rfl rfl (by decide +kernel) ⟨Nat.le_of_ble_eq_true rfl, Nat.le_of_ble_eq_true rfl⟩) hh rfl rfl [0, 1] [2] [] rfl rfl rfl rfl (by decide) rfl rfl hl rfl (Nat.le_of_ble_eq_true rfl) dL_law_484 ⟨Nat.le_of_ble_eq_true rfl, (Nat.le_of_ble_eq_true rfl)⟩ (fun _ _ _ _ _ h => h.elim) (fun v w ty1 H locs hp hh => ?_)
  obtain ⟨rfl, rfl, rfl⟩ := hp
  have hh : kH D kStr e0 A s H [(o1, .inl (z3, 1, .inr (.inl (fun _ => 0)))), (ma, .inr (16, [.int 1, .ref m1, .ref m2, .ref m3, .ref m4, .ref m5, .ref m6, .ref m7, .ref m8, .int 0, .int 0]))] [(z3, .long), (z3, .long)] _ := hh
  refine W.eq (g2 := F0 m 487 ls [.int 0]) (by first | rfl | decide) ?_
  refine lv_istore (lv' := [(7, .int 0), (6, .int 1), (5, .int 0), (4, .ref o2), (3, .ref o1), (2, .ref ma), (1, .ref xa), (0, .ref b)]) hx hb dL_law_487 hl (by decide) rfl (fun ls hl => ?_)
  refine lv_aload_n hx hb dL_law_489 rfl (lv_at hl 5 rfl) ?_
  refine k_callV (C := RX11) (T := TX11) (N := 11) (ci := 16) (q0 := 1) (wr := [(o1, .inl (z3, 1, .inr (.inl (fun _ => 0))))]) (rest := []) (own := RL) ⟨hx, hb, hml, hown, hts⟩ (c_X11_thrown l hst D e0 ma 1 m1 m2 m3 m4 m5 m6 m7 m8 ) (cwV 0 hts gl_V_c_X11_thrown rfl rfl rfl (by decide +kernel) ⟨Nat.le_of_ble_eq_true rfl, Nat.le_of_ble_eq_true rfl⟩) hh rfl rfl [1] [0] [] rfl rfl rfl rfl (by decide) rfl rfl hl rfl (Nat.le_of_ble_eq_true rfl) dL_law_490 ⟨Nat.le_of_ble_eq_true rfl, (Nat.le_of_ble_eq_true rfl)⟩ (fun _ _ _ _ _ h => h.elim) (fun v w ty1 H locs hp hh => ?_)
  obtain ⟨rfl, rfl, rfl⟩ := hp
  have hh : kH D kStr e0 A s H [(o1, .inl (z3, 1, .inr (.inl (fun _ => 0)))), (ma, .inr (16, [.int 1, .ref m1, .ref m2, .ref m3, .ref m4, .ref m5, .ref m6, .ref m7, .ref m8, .int 0, .int 0]))] [(z3, .long), (z3, .long)] _ := hh
  refine W.eq (g2 := F0 m 493 ls [.int 1]) (by first | rfl | decide) ?_
  refine lv_iload hx hb dL_law_493 (lv_at hl 1 rfl) ?_
  refine lv_icmp_eq (tgt := 500) hx hb dL_law_495 (by decide) (fun _ => ?_) (fun c_495 => absurd (by decide) c_495)
  refine lv_iload hx hb dL_law_500 (lv_at hl 1 rfl) ?_
  refine lv_if_ne (tgt := 517) hx hb dL_law_502 (by decide) (fun _ => ?_) (fun c_502 => absurd c_502 (by decide))
  refine lv_goto (tgt := 3429) hx hb dL_law_517 (by decide) ?_
  refine W.widen (k := 1000) (n := 100000) (Nat.le_of_ble_eq_true rfl) (Nat.le_of_ble_eq_true rfl) ?_
  exact kk _ _ _ hh.2.2.2.1 (lv_sub hl [7, 2] rfl)
set_option maxHeartbeats 4000000 in
set_option maxRecDepth 100000 in
theorem law_4 {p : Program} {l : Launch} {e : Env} {s : State} {m : MethodId} {below : List Frame} {meth : Method} {c : Code} {Q : State → Prop} {b : Nat} {xs : Nat → Int32} {D : va_G} {e0 : kE} {A : Nat → Prop} (hst : l.stackTraces = false) (hx : p.tables.exec = Jvm.exec) (hb : c.code = cL_law) (hml : c.maxLocals = 9) (hts : ∀ w ∈ lw_tbl, w.before #[Value.ref b] s = true) (hown : s.vm.findClass RL = some m.cls) (hX : va_X b 5 xs s s.heap) (hbl : b < s.heap.size) (hbA : ¬ A b) {xa x1 x2 x3 x4 x5 g1 g2 g3 g4 h1 h2 h3 h4 h5 ma m1 m2 m3 m4 m5 m6 m7 m8 o1 o2 : Nat} {z1 z2 z3 z4 : ClassId}  {H : Heap} {locs : List Loc} {ls : Array Slot} (hh : kH D kStr e0 A s H (lwW e0 xa x1 x2 x3 x4 x5 g1 g2 g3 g4 h1 h2 h3 h4 h5 ma m1 m2 m3 m4 m5 m6 m7 m8 o1 o2 z1 z2 z3 z4) (lwT z1 z2 z3 z4) locs) (hl : lv_has ls 9 (lwL b xa ma o1 o2)) (kk : lwK p l e s m below meth c Q b A) : W p l e room_1 s m #[Value.ref b] below meth c H locs 100 10000 Q (F0 m 520 ls []) := by
  have hh : kH D kStr e0 A s H [(xa, .inr (11, [.ref x1, .int 0, .ref x2, .int 0, .ref x3, .ref x4, .ref x5, .int 0])), (ma, .inr (16, [.int 0, .ref m1, .ref m2, .ref m3, .ref m4, .ref m5, .ref m6, .ref m7, .ref m8, .int 0, .int 0])), (m1, .inr (4, [.int 0, .ref e0.1, .int 0])), (o1, .inl (z3, 1, .inr (.inl (fun _ => 0))))] [(z3, .long)] _ := hh.sub [0, 5, 6, 14] [2] rfl rfl rfl
  have hl : lv_has ls 9 [(5, .int 0), (4, .ref o2), (3, .ref o1), (2, .ref ma), (1, .ref xa), (0, .ref b)] := hl
  refine lv_aload_n hx hb dL_law_520 rfl (lv_at hl 4 rfl) ?_
  refine lv_aload_n hx hb dL_law_521 rfl (lv_at hl 5 rfl) ?_
  refine lv_iload hx hb dL_law_522 (lv_at hl 0 rfl) ?_
  refine lv_iconst (v := 1) hx hb dL_law_524 (by decide) ?_
  refine lv_iadd hx hb dL_law_525 ?_
  refine W.eq (g2 := F0 m 526 ls [.int 1, .ref b, .ref xa]) (by first | rfl | decide) ?_
  refine va_sld hx hb hX hbl hbA hh.2.2.2.1 (by unfold vp_in; decide) dL_law_526 ?_
  refine W.eq (g2 := F0 m 527 ls [.int (xs 1), .ref xa]) rfl ?_
  refine lv_aload_n hx hb dL_law_527 rfl (lv_at hl 5 rfl) ?_
  refine lv_iload hx hb dL_law_528 (lv_at hl 0 rfl) ?_
  refine lv_iconst (v := 2) hx hb dL_law_530 (by decide) ?_
  refine lv_iadd hx hb dL_law_531 ?_
  refine W.eq (g2 := F0 m 532 ls [.int 2, .ref b, .int (xs 1), .ref xa]) (by first | rfl | decide) ?_
  refine va_sld hx hb hX hbl hbA hh.2.2.2.1 (by unfold vp_in; decide) dL_law_532 ?_
  refine W.eq (g2 := F0 m 533 ls [.int (xs 2), .int (xs 1), .ref xa]) rfl ?_
  refine lv_aload_n hx hb dL_law_533 rfl (lv_at hl 5 rfl) ?_
  refine lv_iload hx hb dL_law_534 (lv_at hl 0 rfl) ?_
  refine lv_iconst (v := 3) hx hb dL_law_536 (by decide) ?_
  refine lv_iadd hx hb dL_law_537 ?_
  refine W.eq (g2 := F0 m 538 ls [.int 3, .ref b, .int (xs 2), .int (xs 1), .ref xa]) (by first | rfl | decide) ?_
  refine va_sld hx hb hX hbl hbA hh.2.2.2.1 (by unfold vp_in; decide) dL_law_538 ?_
  refine W.eq (g2 := F0 m 539 ls [.int (xs 3), .int (xs 2), .int (xs 1), .ref xa]) rfl ?_
  refine lv_aload_n hx hb dL_law_539 rfl (lv_at hl 2 rfl) ?_
  refine k_callSX (wr := [(ma, .inr (16, [.int 0, .ref m1, .ref m2, .ref m3, .ref m4, .ref m5, .ref m6, .ref m7, .ref m8, .int 0, .int 0])), (m1, .inr (4, [.int 0, .ref e0.1, .int 0]))]) (rest := []) (own := RL) ⟨hx, hb, hml, hown, hts⟩ (c_L_cut l hst D e0 xa x1 x2 x3 x4 x5 ((xs 1)) ((xs 2)) ((xs 3)) o1 z3 ((fun _ => 0)) ) (vx_cwSW 5 hts gl_S_c_L_cut rfl rfl rfl (by decide +kernel) ⟨Nat.le_of_ble_eq_true rfl, Nat.le_of_ble_eq_true rfl⟩) hh [0, 3] [1, 2] [0] rfl rfl rfl rfl (by decide) rfl rfl hl rfl (Nat.le_of_ble_eq_true rfl) dL_law_540 ⟨Nat.le_of_ble_eq_true rfl, (Nat.le_of_ble_eq_true rfl)⟩ (fun _ _ _ _ _ h => h.elim) (fun v w ty1 H locs hp hh => ?_)
  obtain ⟨rfl, rfl, rfl⟩ := hp
  have hh : kH D kStr e0 A s H [(ma, .inr (16, [.int 0, .ref m1, .ref m2, .ref m3, .ref m4, .ref m5, .ref m6, .ref m7, .ref m8, .int 0, .int 0])), (m1, .inr (4, [.int 0, .ref e0.1, .int 0])), (o1, .inl (z3, 1, .inr (.inl (fun _ => 0))))] [(z3, .long), (z3, .long)] _ := hh
  refine W.eq (g2 := F0 m 543 ls [.int 1]) (by first | rfl | decide) ?_
  refine lv_istore (lv' := [(6, .int 1), (5, .int 0), (4, .ref o2), (3, .ref o1), (2, .ref ma), (1, .ref xa), (0, .ref b)]) hx hb dL_law_543 hl (by decide) rfl (fun ls hl => ?_)
  refine lv_aload_n hx hb dL_law_545 rfl (lv_at hl 4 rfl) ?_
  refine lv_aload_n hx hb dL_law_546 rfl (lv_at hl 6 rfl) ?_
  refine lv_iload hx hb dL_law_547 (lv_at hl 1 rfl) ?_
  refine lv_iconst (v := 1) hx hb dL_law_549 (by decide) ?_
  refine lv_iadd hx hb dL_law_550 ?_
  refine W.eq (g2 := F0 m 551 ls [.int 1, .ref b, .ref ma]) (by first | rfl | decide) ?_
  refine va_sld hx hb hX hbl hbA hh.2.2.2.1 (by unfold vp_in; decide) dL_law_551 ?_
  refine W.eq (g2 := F0 m 552 ls [.int (xs 1), .ref ma]) rfl ?_
  refine lv_aload_n hx hb dL_law_552 rfl (lv_at hl 6 rfl) ?_
  refine lv_iload hx hb dL_law_553 (lv_at hl 1 rfl) ?_
  refine lv_iconst (v := 2) hx hb dL_law_555 (by decide) ?_
  refine lv_iadd hx hb dL_law_556 ?_
  refine W.eq (g2 := F0 m 557 ls [.int 2, .ref b, .int (xs 1), .ref ma]) (by first | rfl | decide) ?_
  refine va_sld hx hb hX hbl hbA hh.2.2.2.1 (by unfold vp_in; decide) dL_law_557 ?_
  refine W.eq (g2 := F0 m 558 ls [.int (xs 2), .int (xs 1), .ref ma]) rfl ?_
  refine lv_aload_n hx hb dL_law_558 rfl (lv_at hl 6 rfl) ?_
  refine lv_iload hx hb dL_law_559 (lv_at hl 1 rfl) ?_
  refine lv_iconst (v := 3) hx hb dL_law_561 (by decide) ?_
  refine lv_iadd hx hb dL_law_562 ?_
  refine W.eq (g2 := F0 m 563 ls [.int 3, .ref b, .int (xs 2), .int (xs 1), .ref ma]) (by first | rfl | decide) ?_
  refine va_sld hx hb hX hbl hbA hh.2.2.2.1 (by unfold vp_in; decide) dL_law_563 ?_
  refine W.eq (g2 := F0 m 564 ls [.int (xs 3), .int (xs 2), .int (xs 1), .ref ma]) rfl ?_
  refine k_callV (C := RX11) (T := TX11) (N := 11) (ci := 16) (q0 := 0) (wr := [(o1, .inl (z3, 1, .inr (.inl (fun _ => 0))))]) (rest := []) (own := RL) ⟨hx, hb, hml, hown, hts⟩ (c_X11_cut l hst D e0 ma 0 m1 m2 m3 m4 m5 m6 m7 m8 ((xs 1)) ((xs 2)) ((xs 3)) ) (cwV 3 hts gl_V_c_X11_cut rfl rfl rfl (by decide +kernel) ⟨Nat.le_of_ble_eq_true rfl, Nat.le_of_ble_eq_true rfl⟩) hh rfl rfl [0, 1] [2] [] rfl rfl rfl rfl (by decide) rfl rfl hl rfl (Nat.le_of_ble_eq_true rfl) dL_law_564 ⟨Nat.le_of_ble_eq_true rfl, (Nat.le_of_ble_eq_true rfl)⟩ (fun _ _ _ _ _ h => h.elim) (fun v w ty1 H locs hp hh => ?_)
  obtain ⟨rfl, rfl, rfl⟩ := hp
  have hh : kH D kStr e0 A s H [(o1, .inl (z3, 1, .inr (.inl (fun _ => 0)))), (ma, .inr (16, [.int 1, .ref m1, .ref m2, .ref m3, .ref m4, .ref m5, .ref m6, .ref m7, .ref m8, .int 0, .int 0]))] [(z3, .long), (z3, .long)] _ := hh
  refine W.eq (g2 := F0 m 567 ls [.int 0]) (by first | rfl | decide) ?_
  refine lv_istore (lv' := [(7, .int 0), (6, .int 1), (5, .int 0), (4, .ref o2), (3, .ref o1), (2, .ref ma), (1, .ref xa), (0, .ref b)]) hx hb dL_law_567 hl (by decide) rfl (fun ls hl => ?_)
  refine lv_aload_n hx hb dL_law_569 rfl (lv_at hl 5 rfl) ?_
  refine k_callV (C := RX11) (T := TX11) (N := 11) (ci := 16) (q0 := 1) (wr := [(o1, .inl (z3, 1, .inr (.inl (fun _ => 0))))]) (rest := []) (own := RL) ⟨hx, hb, hml, hown, hts⟩ (c_X11_thrown l hst D e0 ma 1 m1 m2 m3 m4 m5 m6 m7 m8 ) (cwV 0 hts gl_V_c_X11_thrown rfl rfl rfl (by decide +kernel) ⟨Nat.le_of_ble_eq_true rfl, Nat.le_of_ble_eq_true rfl⟩) hh rfl rfl [1] [0] [] rfl rfl rfl rfl (by decide) rfl rfl hl rfl (Nat.le_of_ble_eq_true rfl) dL_law_570 ⟨Nat.le_of_ble_eq_true rfl, (Nat.le_of_ble_eq_true rfl)⟩ (fun _ _ _ _ _ h => h.elim) (fun v w ty1 H locs hp hh => ?_)
  obtain ⟨rfl, rfl, rfl⟩ := hp
  have hh : kH D kStr e0 A s H [(o1, .inl (z3, 1, .inr (.inl (fun _ => 0)))), (ma, .inr (16, [.int 1, .ref m1, .ref m2, .ref m3, .ref m4, .ref m5, .ref m6, .ref m7, .ref m8, .int 0, .int 0]))] [(z3, .long), (z3, .long)] _ := hh
  refine W.eq (g2 := F0 m 573 ls [.int 1]) (by first | rfl | decide) ?_
  refine lv_iload hx hb dL_law_573 (lv_at hl 1 rfl) ?_
  refine lv_icmp_eq (tgt := 580) hx hb dL_law_575 (by decide) (fun _ => ?_) (fun c_575 => absurd (by decide) c_575)
  refine lv_iload hx hb dL_law_580 (lv_at hl 1 rfl) ?_
  refine lv_if_ne (tgt := 597) hx hb dL_law_582 (by decide) (fun _ => ?_) (fun c_582 => absurd c_582 (by decide))
  refine lv_goto (tgt := 3429) hx hb dL_law_597 (by decide) ?_
  refine W.widen (k := 1000) (n := 100000) (Nat.le_of_ble_eq_true rfl) (Nat.le_of_ble_eq_true rfl) ?_
  exact kk _ _ _ hh.2.2.2.1 (lv_sub hl [7, 2] rfl)
set_option maxHeartbeats 4000000 in
set_option maxRecDepth 100000 in
theorem law_6 {p : Program} {l : Launch} {e : Env} {s : State} {m : MethodId} {below : List Frame} {meth : Method} {c : Code} {Q : State → Prop} {b : Nat} {xs : Nat → Int32} {D : va_G} {e0 : kE} {A : Nat → Prop} (hst : l.stackTraces = false) (hx : p.tables.exec = Jvm.exec) (hb : c.code = cL_law) (hml : c.maxLocals = 9) (hts : ∀ w ∈ lw_tbl, w.before #[Value.ref b] s = true) (hown : s.vm.findClass RL = some m.cls) (hX : va_X b 5 xs s s.heap) (hbl : b < s.heap.size) (hbA : ¬ A b) {xa x1 x2 x3 x4 x5 g1 g2 g3 g4 h1 h2 h3 h4 h5 ma m1 m2 m3 m4 m5 m6 m7 m8 o1 o2 : Nat} {z1 z2 z3 z4 : ClassId}  {H : Heap} {locs : List Loc} {ls : Array Slot} (hh : kH D kStr e0 A s H (lwW e0 xa x1 x2 x3 x4 x5 g1 g2 g3 g4 h1 h2 h3 h4 h5 ma m1 m2 m3 m4 m5 m6 m7 m8 o1 o2 z1 z2 z3 z4) (lwT z1 z2 z3 z4) locs) (hl : lv_has ls 9 (lwL b xa ma o1 o2)) (kk : lwK p l e s m below meth c Q b A) : W p l e room_1 s m #[Value.ref b] below meth c H locs 100 10000 Q (F0 m 656 ls []) := by
  have hh : kH D kStr e0 A s H [(xa, .inr (11, [.ref x1, .int 0, .ref x2, .int 0, .ref x3, .ref x4, .ref x5, .int 0])), (ma, .inr (16, [.int 0, .ref m1, .ref m2, .ref m3, .ref m4, .ref m5, .ref m6, .ref m7, .ref m8, .int 0, .int 0])), (m2, .inr (4, [.int 0, .ref e0.1, .int 0])), (o1, .inl (z3, 1, .inr (.inl (fun _ => 0))))] [(z3, .long)] _ := hh.sub [0, 5, 7, 14] [2] rfl rfl rfl
  have hl : lv_has ls 9 [(5, .int 0), (4, .ref o2), (3, .ref o1), (2, .ref ma), (1, .ref xa), (0, .ref b)] := hl
  refine lv_aload_n hx hb dL_law_656 rfl (lv_at hl 4 rfl) ?_
  refine lv_aload_n hx hb dL_law_657 rfl (lv_at hl 5 rfl) ?_
  refine lv_iload hx hb dL_law_658 (lv_at hl 0 rfl) ?_
  refine lv_iconst (v := 1) hx hb dL_law_660 (by decide) ?_
  refine lv_iadd hx hb dL_law_661 ?_
  refine W.eq (g2 := F0 m 662 ls [.int 1, .ref b, .ref xa]) (by first | rfl | decide) ?_
  refine va_sld hx hb hX hbl hbA hh.2.2.2.1 (by unfold vp_in; decide) dL_law_662 ?_
  refine W.eq (g2 := F0 m 663 ls [.int (xs 1), .ref xa]) rfl ?_
  refine lv_aload_n hx hb dL_law_663 rfl (lv_at hl 5 rfl) ?_
  refine lv_iload hx hb dL_law_664 (lv_at hl 0 rfl) ?_
  refine lv_iconst (v := 2) hx hb dL_law_666 (by decide) ?_
  refine lv_iadd hx hb dL_law_667 ?_
  refine W.eq (g2 := F0 m 668 ls [.int 2, .ref b, .int (xs 1), .ref xa]) (by first | rfl | decide) ?_
  refine va_sld hx hb hX hbl hbA hh.2.2.2.1 (by unfold vp_in; decide) dL_law_668 ?_
  refine W.eq (g2 := F0 m 669 ls [.int (xs 2), .int (xs 1), .ref xa]) rfl ?_
  refine lv_aload_n hx hb dL_law_669 rfl (lv_at hl 5 rfl) ?_
  refine lv_iload hx hb dL_law_670 (lv_at hl 0 rfl) ?_
  refine lv_iconst (v := 3) hx hb dL_law_672 (by decide) ?_
  refine lv_iadd hx hb dL_law_673 ?_
  refine W.eq (g2 := F0 m 674 ls [.int 3, .ref b, .int (xs 2), .int (xs 1), .ref xa]) (by first | rfl | decide) ?_
  refine va_sld hx hb hX hbl hbA hh.2.2.2.1 (by unfold vp_in; decide) dL_law_674 ?_
  refine W.eq (g2 := F0 m 675 ls [.int (xs 3), .int (xs 2), .int (xs 1), .ref xa]) rfl ?_
  refine lv_aload_n hx hb dL_law_675 rfl (lv_at hl 2 rfl) ?_
  refine k_callSX (wr := [(ma, .inr (16, [.int 0, .ref m1, .ref m2, .ref m3, .ref m4, .ref m5, .ref m6, .ref m7, .ref m8, .int 0, .int 0])), (m2, .inr (4, [.int 0, .ref e0.1, .int 0]))]) (rest := []) (own := RL) ⟨hx, hb, hml, hown, hts⟩ (c_L_splice l hst D e0 xa x1 x2 x3 x4 x5 ((xs 1)) ((xs 2)) ((xs 3)) o1 z3 ((fun _ => 0)) ) (vx_cwSW 5 hts gl_S_c_L_splice rfl rfl rfl (by decide +kernel) ⟨Nat.le_of_ble_eq_true rfl, Nat.le_of_ble_eq_true rfl⟩) hh [0, 3] [1, 2] [0] rfl rfl rfl rfl (by decide) rfl rfl hl rfl (Nat.le_of_ble_eq_true rfl) dL_law_676 ⟨Nat.le_of_ble_eq_true rfl, (Nat.le_of_ble_eq_true rfl)⟩ (fun _ _ _ _ _ h => h.elim) (fun v w ty1 H locs hp hh => ?_)
  obtain ⟨rfl, rfl, rfl⟩ := hp
  have hh : kH D kStr e0 A s H [(ma, .inr (16, [.int 0, .ref m1, .ref m2, .ref m3, .ref m4, .ref m5, .ref m6, .ref m7, .ref m8, .int 0, .int 0])), (m2, .inr (4, [.int 0, .ref e0.1, .int 0])), (o1, .inl (z3, 1, .inr (.inl (fun _ => 0))))] [(z3, .long), (z3, .long)] _ := hh
  refine W.eq (g2 := F0 m 679 ls [.int 1]) (by first | rfl | decide) ?_
  refine lv_istore (lv' := [(6, .int 1), (5, .int 0), (4, .ref o2), (3, .ref o1), (2, .ref ma), (1, .ref xa), (0, .ref b)]) hx hb dL_law_679 hl (by decide) rfl (fun ls hl => ?_)
  refine lv_aload_n hx hb dL_law_681 rfl (lv_at hl 4 rfl) ?_
  refine lv_aload_n hx hb dL_law_682 rfl (lv_at hl 6 rfl) ?_
  refine lv_iload hx hb dL_law_683 (lv_at hl 1 rfl) ?_
  refine lv_iconst (v := 1) hx hb dL_law_685 (by decide) ?_
  refine lv_iadd hx hb dL_law_686 ?_
  refine W.eq (g2 := F0 m 687 ls [.int 1, .ref b, .ref ma]) (by first | rfl | decide) ?_
  refine va_sld hx hb hX hbl hbA hh.2.2.2.1 (by unfold vp_in; decide) dL_law_687 ?_
  refine W.eq (g2 := F0 m 688 ls [.int (xs 1), .ref ma]) rfl ?_
  refine lv_aload_n hx hb dL_law_688 rfl (lv_at hl 6 rfl) ?_
  refine lv_iload hx hb dL_law_689 (lv_at hl 1 rfl) ?_
  refine lv_iconst (v := 2) hx hb dL_law_691 (by decide) ?_
  refine lv_iadd hx hb dL_law_692 ?_
  refine W.eq (g2 := F0 m 693 ls [.int 2, .ref b, .int (xs 1), .ref ma]) (by first | rfl | decide) ?_
  refine va_sld hx hb hX hbl hbA hh.2.2.2.1 (by unfold vp_in; decide) dL_law_693 ?_
  refine W.eq (g2 := F0 m 694 ls [.int (xs 2), .int (xs 1), .ref ma]) rfl ?_
  refine lv_aload_n hx hb dL_law_694 rfl (lv_at hl 6 rfl) ?_
  refine lv_iload hx hb dL_law_695 (lv_at hl 1 rfl) ?_
  refine lv_iconst (v := 3) hx hb dL_law_697 (by decide) ?_
  refine lv_iadd hx hb dL_law_698 ?_
  refine W.eq (g2 := F0 m 699 ls [.int 3, .ref b, .int (xs 2), .int (xs 1), .ref ma]) (by first | rfl | decide) ?_
  refine va_sld hx hb hX hbl hbA hh.2.2.2.1 (by unfold vp_in; decide) dL_law_699 ?_
  refine W.eq (g2 := F0 m 700 ls [.int (xs 3), .int (xs 2), .int (xs 1), .ref ma]) rfl ?_
  refine k_callV (C := RX11) (T := TX11) (N := 11) (ci := 16) (q0 := 0) (wr := [(o1, .inl (z3, 1, .inr (.inl (fun _ => 0))))]) (rest := []) (own := RL) ⟨hx, hb, hml, hown, hts⟩ (c_X11_splice l hst D e0 ma 0 m1 m2 m3 m4 m5 m6 m7 m8 ((xs 1)) ((xs 2)) ((xs 3)) ) (cwV 3 hts gl_V_c_X11_splice rfl rfl rfl (by decide +kernel) ⟨Nat.le_of_ble_eq_true rfl, Nat.le_of_ble_eq_true rfl⟩) hh rfl rfl [0, 1] [2] [] rfl rfl rfl rfl (by decide) rfl rfl hl rfl (Nat.le_of_ble_eq_true rfl) dL_law_700 ⟨Nat.le_of_ble_eq_true rfl, (Nat.le_of_ble_eq_true rfl)⟩ (fun _ _ _ _ _ h => h.elim) (fun v w ty1 H locs hp hh => ?_)
  obtain ⟨rfl, rfl, rfl⟩ := hp
  have hh : kH D kStr e0 A s H [(o1, .inl (z3, 1, .inr (.inl (fun _ => 0)))), (ma, .inr (16, [.int 1, .ref m1, .ref m2, .ref m3, .ref m4, .ref m5, .ref m6, .ref m7, .ref m8, .int 0, .int 0]))] [(z3, .long), (z3, .long)] _ := hh
  refine W.eq (g2 := F0 m 703 ls [.int 0]) (by first | rfl | decide) ?_
  refine lv_istore (lv' := [(7, .int 0), (6, .int 1), (5, .int 0), (4, .ref o2), (3, .ref o1), (2, .ref ma), (1, .ref xa), (0, .ref b)]) hx hb dL_law_703 hl (by decide) rfl (fun ls hl => ?_)
  refine lv_aload_n hx hb dL_law_705 rfl (lv_at hl 5 rfl) ?_
  refine k_callV (C := RX11) (T := TX11) (N := 11) (ci := 16) (q0 := 1) (wr := [(o1, .inl (z3, 1, .inr (.inl (fun _ => 0))))]) (rest := []) (own := RL) ⟨hx, hb, hml, hown, hts⟩ (c_X11_thrown l hst D e0 ma 1 m1 m2 m3 m4 m5 m6 m7 m8 ) (cwV 0 hts gl_V_c_X11_thrown rfl rfl rfl (by decide +kernel) ⟨Nat.le_of_ble_eq_true rfl, Nat.le_of_ble_eq_true rfl⟩) hh rfl rfl [1] [0] [] rfl rfl rfl rfl (by decide) rfl rfl hl rfl (Nat.le_of_ble_eq_true rfl) dL_law_706 ⟨Nat.le_of_ble_eq_true rfl, (Nat.le_of_ble_eq_true rfl)⟩ (fun _ _ _ _ _ h => h.elim) (fun v w ty1 H locs hp hh => ?_)
  obtain ⟨rfl, rfl, rfl⟩ := hp
  have hh : kH D kStr e0 A s H [(o1, .inl (z3, 1, .inr (.inl (fun _ => 0)))), (ma, .inr (16, [.int 1, .ref m1, .ref m2, .ref m3, .ref m4, .ref m5, .ref m6, .ref m7, .ref m8, .int 0, .int 0]))] [(z3, .long), (z3, .long)] _ := hh
  refine W.eq (g2 := F0 m 709 ls [.int 1]) (by first | rfl | decide) ?_
  refine lv_iload hx hb dL_law_709 (lv_at hl 1 rfl) ?_
  refine lv_icmp_eq (tgt := 716) hx hb dL_law_711 (by decide) (fun _ => ?_) (fun c_711 => absurd (by decide) c_711)
  refine lv_iload hx hb dL_law_716 (lv_at hl 1 rfl) ?_
  refine lv_if_ne (tgt := 733) hx hb dL_law_718 (by decide) (fun _ => ?_) (fun c_718 => absurd c_718 (by decide))
  refine lv_goto (tgt := 3429) hx hb dL_law_733 (by decide) ?_
  refine W.widen (k := 1000) (n := 100000) (Nat.le_of_ble_eq_true rfl) (Nat.le_of_ble_eq_true rfl) ?_
  exact kk _ _ _ hh.2.2.2.1 (lv_sub hl [7, 2] rfl)
set_option maxHeartbeats 4000000 in
set_option maxRecDepth 100000 in
theorem law_7 {p : Program} {l : Launch} {e : Env} {s : State} {m : MethodId} {below : List Frame} {meth : Method} {c : Code} {Q : State → Prop} {b : Nat} {xs : Nat → Int32} {D : va_G} {e0 : kE} {A : Nat → Prop} (hst : l.stackTraces = false) (hx : p.tables.exec = Jvm.exec) (hb : c.code = cL_law) (hml : c.maxLocals = 9) (hts : ∀ w ∈ lw_tbl, w.before #[Value.ref b] s = true) (hown : s.vm.findClass RL = some m.cls) (hX : va_X b 5 xs s s.heap) (hbl : b < s.heap.size) (hbA : ¬ A b) {xa x1 x2 x3 x4 x5 g1 g2 g3 g4 h1 h2 h3 h4 h5 ma m1 m2 m3 m4 m5 m6 m7 m8 o1 o2 : Nat} {z1 z2 z3 z4 : ClassId}  {H : Heap} {locs : List Loc} {ls : Array Slot} (hh : kH D kStr e0 A s H (lwW e0 xa x1 x2 x3 x4 x5 g1 g2 g3 g4 h1 h2 h3 h4 h5 ma m1 m2 m3 m4 m5 m6 m7 m8 o1 o2 z1 z2 z3 z4) (lwT z1 z2 z3 z4) locs) (hl : lv_has ls 9 (lwL b xa ma o1 o2)) (kk : lwK p l e s m below meth c Q b A) : W p l e room_1 s m #[Value.ref b] below meth c H locs 100 10000 Q (F0 m 736 ls []) := by
  have hh : kH D kStr e0 A s H [(xa, .inr (11, [.ref x1, .int 0, .ref x2, .int 0, .ref x3, .ref x4, .ref x5, .int 0])), (ma, .inr (16, [.int 0, .ref m1, .ref m2, .ref m3, .ref m4, .ref m5, .ref m6, .ref m7, .ref m8, .int 0, .int 0])), (m2, .inr (4, [.int 0, .ref e0.1, .int 0])), (o1, .inl (z3, 1, .inr (.inl (fun _ => 0))))] [(z3, .long)] _ := hh.sub [0, 5, 7, 14] [2] rfl rfl rfl
  have hl : lv_has ls 9 [(5, .int 0), (4, .ref o2), (3, .ref o1), (2, .ref ma), (1, .ref xa), (0, .ref b)] := hl
  refine lv_aload_n hx hb dL_law_736 rfl (lv_at hl 4 rfl) ?_
  refine lv_aload_n hx hb dL_law_737 rfl (lv_at hl 5 rfl) ?_
  refine lv_iload hx hb dL_law_738 (lv_at hl 0 rfl) ?_
  refine lv_iconst (v := 1) hx hb dL_law_740 (by decide) ?_
  refine lv_iadd hx hb dL_law_741 ?_
  refine W.eq (g2 := F0 m 742 ls [.int 1, .ref b, .ref xa]) (by first | rfl | decide) ?_
  refine va_sld hx hb hX hbl hbA hh.2.2.2.1 (by unfold vp_in; decide) dL_law_742 ?_
  refine W.eq (g2 := F0 m 743 ls [.int (xs 1), .ref xa]) rfl ?_
  refine lv_aload_n hx hb dL_law_743 rfl (lv_at hl 5 rfl) ?_
  refine lv_iload hx hb dL_law_744 (lv_at hl 0 rfl) ?_
  refine lv_iconst (v := 2) hx hb dL_law_746 (by decide) ?_
  refine lv_iadd hx hb dL_law_747 ?_
  refine W.eq (g2 := F0 m 748 ls [.int 2, .ref b, .int (xs 1), .ref xa]) (by first | rfl | decide) ?_
  refine va_sld hx hb hX hbl hbA hh.2.2.2.1 (by unfold vp_in; decide) dL_law_748 ?_
  refine W.eq (g2 := F0 m 749 ls [.int (xs 2), .int (xs 1), .ref xa]) rfl ?_
  refine lv_aload_n hx hb dL_law_749 rfl (lv_at hl 2 rfl) ?_
  refine k_callSX (wr := [(ma, .inr (16, [.int 0, .ref m1, .ref m2, .ref m3, .ref m4, .ref m5, .ref m6, .ref m7, .ref m8, .int 0, .int 0])), (m2, .inr (4, [.int 0, .ref e0.1, .int 0]))]) (rest := []) (own := RL) ⟨hx, hb, hml, hown, hts⟩ (c_L_gain l hst D e0 xa x1 x2 x3 x4 x5 ((xs 1)) ((xs 2)) o1 z3 ((fun _ => 0)) ) (vx_cwSW 4 hts gl_S_c_L_gain rfl rfl rfl (by decide +kernel) ⟨Nat.le_of_ble_eq_true rfl, Nat.le_of_ble_eq_true rfl⟩) hh [0, 3] [1, 2] [0] rfl rfl rfl rfl (by decide) rfl rfl hl rfl (Nat.le_of_ble_eq_true rfl) dL_law_750 ⟨Nat.le_of_ble_eq_true rfl, (Nat.le_of_ble_eq_true rfl)⟩ (fun _ _ _ _ _ h => h.elim) (fun v w ty1 H locs hp hh => ?_)
  obtain ⟨rfl, rfl, rfl⟩ := hp
  have hh : kH D kStr e0 A s H [(ma, .inr (16, [.int 0, .ref m1, .ref m2, .ref m3, .ref m4, .ref m5, .ref m6, .ref m7, .ref m8, .int 0, .int 0])), (m2, .inr (4, [.int 0, .ref e0.1, .int 0])), (o1, .inl (z3, 1, .inr (.inl (fun _ => 0))))] [(z3, .long), (z3, .long)] _ := hh
  refine W.eq (g2 := F0 m 753 ls [.int 1]) (by first | rfl | decide) ?_
  refine lv_istore (lv' := [(6, .int 1), (5, .int 0), (4, .ref o2), (3, .ref o1), (2, .ref ma), (1, .ref xa), (0, .ref b)]) hx hb dL_law_753 hl (by decide) rfl (fun ls hl => ?_)
  refine lv_aload_n hx hb dL_law_755 rfl (lv_at hl 4 rfl) ?_
  refine lv_aload_n hx hb dL_law_756 rfl (lv_at hl 6 rfl) ?_
  refine lv_iload hx hb dL_law_757 (lv_at hl 1 rfl) ?_
  refine lv_iconst (v := 1) hx hb dL_law_759 (by decide) ?_
  refine lv_iadd hx hb dL_law_760 ?_
  refine W.eq (g2 := F0 m 761 ls [.int 1, .ref b, .ref ma]) (by first | rfl | decide) ?_
  refine va_sld hx hb hX hbl hbA hh.2.2.2.1 (by unfold vp_in; decide) dL_law_761 ?_
  refine W.eq (g2 := F0 m 762 ls [.int (xs 1), .ref ma]) rfl ?_
  refine lv_aload_n hx hb dL_law_762 rfl (lv_at hl 6 rfl) ?_
  refine lv_iload hx hb dL_law_763 (lv_at hl 1 rfl) ?_
  refine lv_iconst (v := 2) hx hb dL_law_765 (by decide) ?_
  refine lv_iadd hx hb dL_law_766 ?_
  refine W.eq (g2 := F0 m 767 ls [.int 2, .ref b, .int (xs 1), .ref ma]) (by first | rfl | decide) ?_
  refine va_sld hx hb hX hbl hbA hh.2.2.2.1 (by unfold vp_in; decide) dL_law_767 ?_
  refine W.eq (g2 := F0 m 768 ls [.int (xs 2), .int (xs 1), .ref ma]) rfl ?_
  refine k_callV (C := RX11) (T := TX11) (N := 11) (ci := 16) (q0 := 0) (wr := [(o1, .inl (z3, 1, .inr (.inl (fun _ => 0))))]) (rest := []) (own := RL) ⟨hx, hb, hml, hown, hts⟩ (c_X11_gain l hst D e0 ma 0 m1 m2 m3 m4 m5 m6 m7 m8 ((xs 1)) ((xs 2)) ) (cwV 2 hts gl_V_c_X11_gain rfl rfl rfl (by decide +kernel) ⟨Nat.le_of_ble_eq_true rfl, Nat.le_of_ble_eq_true rfl⟩) hh rfl rfl [0, 1] [2] [] rfl rfl rfl rfl (by decide) rfl rfl hl rfl (Nat.le_of_ble_eq_true rfl) dL_law_768 ⟨Nat.le_of_ble_eq_true rfl, (Nat.le_of_ble_eq_true rfl)⟩ (fun _ _ _ _ _ h => h.elim) (fun v w ty1 H locs hp hh => ?_)
  obtain ⟨rfl, rfl, rfl⟩ := hp
  have hh : kH D kStr e0 A s H [(o1, .inl (z3, 1, .inr (.inl (fun _ => 0)))), (ma, .inr (16, [.int 1, .ref m1, .ref m2, .ref m3, .ref m4, .ref m5, .ref m6, .ref m7, .ref m8, .int 0, .int 0]))] [(z3, .long), (z3, .long)] _ := hh
  refine W.eq (g2 := F0 m 771 ls [.int 0]) (by first | rfl | decide) ?_
  refine lv_istore (lv' := [(7, .int 0), (6, .int 1), (5, .int 0), (4, .ref o2), (3, .ref o1), (2, .ref ma), (1, .ref xa), (0, .ref b)]) hx hb dL_law_771 hl (by decide) rfl (fun ls hl => ?_)
  refine lv_aload_n hx hb dL_law_773 rfl (lv_at hl 5 rfl) ?_
  refine k_callV (C := RX11) (T := TX11) (N := 11) (ci := 16) (q0 := 1) (wr := [(o1, .inl (z3, 1, .inr (.inl (fun _ => 0))))]) (rest := []) (own := RL) ⟨hx, hb, hml, hown, hts⟩ (c_X11_thrown l hst D e0 ma 1 m1 m2 m3 m4 m5 m6 m7 m8 ) (cwV 0 hts gl_V_c_X11_thrown rfl rfl rfl (by decide +kernel) ⟨Nat.le_of_ble_eq_true rfl, Nat.le_of_ble_eq_true rfl⟩) hh rfl rfl [1] [0] [] rfl rfl rfl rfl (by decide) rfl rfl hl rfl (Nat.le_of_ble_eq_true rfl) dL_law_774 ⟨Nat.le_of_ble_eq_true rfl, (Nat.le_of_ble_eq_true rfl)⟩ (fun _ _ _ _ _ h => h.elim) (fun v w ty1 H locs hp hh => ?_)
  obtain ⟨rfl, rfl, rfl⟩ := hp
  have hh : kH D kStr e0 A s H [(o1, .inl (z3, 1, .inr (.inl (fun _ => 0)))), (ma, .inr (16, [.int 1, .ref m1, .ref m2, .ref m3, .ref m4, .ref m5, .ref m6, .ref m7, .ref m8, .int 0, .int 0]))] [(z3, .long), (z3, .long)] _ := hh
  refine W.eq (g2 := F0 m 777 ls [.int 1]) (by first | rfl | decide) ?_
  refine lv_iload hx hb dL_law_777 (lv_at hl 1 rfl) ?_
  refine lv_icmp_eq (tgt := 784) hx hb dL_law_779 (by decide) (fun _ => ?_) (fun c_779 => absurd (by decide) c_779)
  refine lv_iload hx hb dL_law_784 (lv_at hl 1 rfl) ?_
  refine lv_if_ne (tgt := 801) hx hb dL_law_786 (by decide) (fun _ => ?_) (fun c_786 => absurd c_786 (by decide))
  refine lv_goto (tgt := 3429) hx hb dL_law_801 (by decide) ?_
  refine W.widen (k := 1000) (n := 100000) (Nat.le_of_ble_eq_true rfl) (Nat.le_of_ble_eq_true rfl) ?_
  exact kk _ _ _ hh.2.2.2.1 (lv_sub hl [7, 2] rfl)
set_option maxHeartbeats 4000000 in
set_option maxRecDepth 100000 in
theorem law_8 {p : Program} {l : Launch} {e : Env} {s : State} {m : MethodId} {below : List Frame} {meth : Method} {c : Code} {Q : State → Prop} {b : Nat} {xs : Nat → Int32} {D : va_G} {e0 : kE} {A : Nat → Prop} (hst : l.stackTraces = false) (hx : p.tables.exec = Jvm.exec) (hb : c.code = cL_law) (hml : c.maxLocals = 9) (hts : ∀ w ∈ lw_tbl, w.before #[Value.ref b] s = true) (hown : s.vm.findClass RL = some m.cls) (hX : va_X b 5 xs s s.heap) (hbl : b < s.heap.size) (hbA : ¬ A b) {xa x1 x2 x3 x4 x5 g1 g2 g3 g4 h1 h2 h3 h4 h5 ma m1 m2 m3 m4 m5 m6 m7 m8 o1 o2 : Nat} {z1 z2 z3 z4 : ClassId}  {H : Heap} {locs : List Loc} {ls : Array Slot} (hh : kH D kStr e0 A s H (lwW e0 xa x1 x2 x3 x4 x5 g1 g2 g3 g4 h1 h2 h3 h4 h5 ma m1 m2 m3 m4 m5 m6 m7 m8 o1 o2 z1 z2 z3 z4) (lwT z1 z2 z3 z4) locs) (hl : lv_has ls 9 (lwL b xa ma o1 o2)) (kk : lwK p l e s m below meth c Q b A) : W p l e room_1 s m #[Value.ref b] below meth c H locs 100 10000 Q (F0 m 804 ls []) := by
  have hh : kH D kStr e0 A s H [(xa, .inr (11, [.ref x1, .int 0, .ref x2, .int 0, .ref x3, .ref x4, .ref x5, .int 0])), (ma, .inr (16, [.int 0, .ref m1, .ref m2, .ref m3, .ref m4, .ref m5, .ref m6, .ref m7, .ref m8, .int 0, .int 0])), (m2, .inr (4, [.int 0, .ref e0.1, .int 0])), (o1, .inl (z3, 1, .inr (.inl (fun _ => 0))))] [(z3, .long)] _ := hh.sub [0, 5, 7, 14] [2] rfl rfl rfl
  have hl : lv_has ls 9 [(5, .int 0), (4, .ref o2), (3, .ref o1), (2, .ref ma), (1, .ref xa), (0, .ref b)] := hl
  refine lv_aload_n hx hb dL_law_804 rfl (lv_at hl 4 rfl) ?_
  refine lv_aload_n hx hb dL_law_805 rfl (lv_at hl 5 rfl) ?_
  refine lv_iload hx hb dL_law_806 (lv_at hl 0 rfl) ?_
  refine lv_iconst (v := 1) hx hb dL_law_808 (by decide) ?_
  refine lv_iadd hx hb dL_law_809 ?_
  refine W.eq (g2 := F0 m 810 ls [.int 1, .ref b, .ref xa]) (by first | rfl | decide) ?_
  refine va_sld hx hb hX hbl hbA hh.2.2.2.1 (by unfold vp_in; decide) dL_law_810 ?_
  refine W.eq (g2 := F0 m 811 ls [.int (xs 1), .ref xa]) rfl ?_
  refine lv_aload_n hx hb dL_law_811 rfl (lv_at hl 2 rfl) ?_
  refine k_callSX (wr := [(ma, .inr (16, [.int 0, .ref m1, .ref m2, .ref m3, .ref m4, .ref m5, .ref m6, .ref m7, .ref m8, .int 0, .int 0])), (m2, .inr (4, [.int 0, .ref e0.1, .int 0]))]) (rest := []) (own := RL) ⟨hx, hb, hml, hown, hts⟩ (c_L_back l hst D e0 xa x1 x2 x3 x4 x5 ((xs 1)) o1 z3 ((fun _ => 0)) ) (vx_cwSW 3 hts gl_S_c_L_back rfl rfl rfl (by decide +kernel) ⟨Nat.le_of_ble_eq_true rfl, Nat.le_of_ble_eq_true rfl⟩) hh [0, 3] [1, 2] [0] rfl rfl rfl rfl (by decide) rfl rfl hl rfl (Nat.le_of_ble_eq_true rfl) dL_law_812 ⟨Nat.le_of_ble_eq_true rfl, (Nat.le_of_ble_eq_true rfl)⟩ (fun _ _ _ _ _ h => h.elim) (fun v w ty1 H locs hp hh => ?_)
  obtain ⟨rfl, rfl, rfl⟩ := hp
  have hh : kH D kStr e0 A s H [(ma, .inr (16, [.int 0, .ref m1, .ref m2, .ref m3, .ref m4, .ref m5, .ref m6, .ref m7, .ref m8, .int 0, .int 0])), (m2, .inr (4, [.int 0, .ref e0.1, .int 0])), (o1, .inl (z3, 1, .inr (.inl (fun _ => 0))))] [(z3, .long), (z3, .long)] _ := hh
  refine W.eq (g2 := F0 m 815 ls [.int 1]) (by first | rfl | decide) ?_
  refine lv_istore (lv' := [(6, .int 1), (5, .int 0), (4, .ref o2), (3, .ref o1), (2, .ref ma), (1, .ref xa), (0, .ref b)]) hx hb dL_law_815 hl (by decide) rfl (fun ls hl => ?_)
  refine lv_aload_n hx hb dL_law_817 rfl (lv_at hl 4 rfl) ?_
  refine lv_aload_n hx hb dL_law_818 rfl (lv_at hl 6 rfl) ?_
  refine lv_iload hx hb dL_law_819 (lv_at hl 1 rfl) ?_
  refine lv_iconst (v := 1) hx hb dL_law_821 (by decide) ?_
  refine lv_iadd hx hb dL_law_822 ?_
  refine W.eq (g2 := F0 m 823 ls [.int 1, .ref b, .ref ma]) (by first | rfl | decide) ?_
  refine va_sld hx hb hX hbl hbA hh.2.2.2.1 (by unfold vp_in; decide) dL_law_823 ?_
  refine W.eq (g2 := F0 m 824 ls [.int (xs 1), .ref ma]) rfl ?_
  refine k_callV (C := RX11) (T := TX11) (N := 11) (ci := 16) (q0 := 0) (wr := [(o1, .inl (z3, 1, .inr (.inl (fun _ => 0))))]) (rest := []) (own := RL) ⟨hx, hb, hml, hown, hts⟩ (c_X11_back l hst D e0 ma 0 m1 m2 m3 m4 m5 m6 m7 m8 ((xs 1)) ) (cwV 1 hts gl_V_c_X11_back rfl rfl rfl (by decide +kernel) ⟨Nat.le_of_ble_eq_true rfl, Nat.le_of_ble_eq_true rfl⟩) hh rfl rfl [0, 1] [2] [] rfl rfl rfl rfl (by decide) rfl rfl hl rfl (Nat.le_of_ble_eq_true rfl) dL_law_824 ⟨Nat.le_of_ble_eq_true rfl, (Nat.le_of_ble_eq_true rfl)⟩ (fun _ _ _ _ _ h => h.elim) (fun v w ty1 H locs hp hh => ?_)
  obtain ⟨rfl, rfl, rfl⟩ := hp
  have hh : kH D kStr e0 A s H [(o1, .inl (z3, 1, .inr (.inl (fun _ => 0)))), (ma, .inr (16, [.int 1, .ref m1, .ref m2, .ref m3, .ref m4, .ref m5, .ref m6, .ref m7, .ref m8, .int 0, .int 0]))] [(z3, .long), (z3, .long)] _ := hh
  refine W.eq (g2 := F0 m 827 ls [.int 0]) (by first | rfl | decide) ?_
  refine lv_istore (lv' := [(7, .int 0), (6, .int 1), (5, .int 0), (4, .ref o2), (3, .ref o1), (2, .ref ma), (1, .ref xa), (0, .ref b)]) hx hb dL_law_827 hl (by decide) rfl (fun ls hl => ?_)
  refine lv_aload_n hx hb dL_law_829 rfl (lv_at hl 5 rfl) ?_
  refine k_callV (C := RX11) (T := TX11) (N := 11) (ci := 16) (q0 := 1) (wr := [(o1, .inl (z3, 1, .inr (.inl (fun _ => 0))))]) (rest := []) (own := RL) ⟨hx, hb, hml, hown, hts⟩ (c_X11_thrown l hst D e0 ma 1 m1 m2 m3 m4 m5 m6 m7 m8 ) (cwV 0 hts gl_V_c_X11_thrown rfl rfl rfl (by decide +kernel) ⟨Nat.le_of_ble_eq_true rfl, Nat.le_of_ble_eq_true rfl⟩) hh rfl rfl [1] [0] [] rfl rfl rfl rfl (by decide) rfl rfl hl rfl (Nat.le_of_ble_eq_true rfl) dL_law_830 ⟨Nat.le_of_ble_eq_true rfl, (Nat.le_of_ble_eq_true rfl)⟩ (fun _ _ _ _ _ h => h.elim) (fun v w ty1 H locs hp hh => ?_)
  obtain ⟨rfl, rfl, rfl⟩ := hp
  have hh : kH D kStr e0 A s H [(o1, .inl (z3, 1, .inr (.inl (fun _ => 0)))), (ma, .inr (16, [.int 1, .ref m1, .ref m2, .ref m3, .ref m4, .ref m5, .ref m6, .ref m7, .ref m8, .int 0, .int 0]))] [(z3, .long), (z3, .long)] _ := hh
  refine W.eq (g2 := F0 m 833 ls [.int 1]) (by first | rfl | decide) ?_
  refine lv_iload hx hb dL_law_833 (lv_at hl 1 rfl) ?_
  refine lv_icmp_eq (tgt := 840) hx hb dL_law_835 (by decide) (fun _ => ?_) (fun c_835 => absurd (by decide) c_835)
  refine lv_iload hx hb dL_law_840 (lv_at hl 1 rfl) ?_
  refine lv_if_ne (tgt := 857) hx hb dL_law_842 (by decide) (fun _ => ?_) (fun c_842 => absurd c_842 (by decide))
  refine lv_goto (tgt := 3429) hx hb dL_law_857 (by decide) ?_
  refine W.widen (k := 1000) (n := 100000) (Nat.le_of_ble_eq_true rfl) (Nat.le_of_ble_eq_true rfl) ?_
  exact kk _ _ _ hh.2.2.2.1 (lv_sub hl [7, 2] rfl)
set_option maxHeartbeats 4000000 in
set_option maxRecDepth 100000 in
theorem law_9 {p : Program} {l : Launch} {e : Env} {s : State} {m : MethodId} {below : List Frame} {meth : Method} {c : Code} {Q : State → Prop} {b : Nat} {xs : Nat → Int32} {D : va_G} {e0 : kE} {A : Nat → Prop} (hst : l.stackTraces = false) (hx : p.tables.exec = Jvm.exec) (hb : c.code = cL_law) (hml : c.maxLocals = 9) (hts : ∀ w ∈ lw_tbl, w.before #[Value.ref b] s = true) (hown : s.vm.findClass RL = some m.cls) (hX : va_X b 5 xs s s.heap) (hbl : b < s.heap.size) (hbA : ¬ A b) {xa x1 x2 x3 x4 x5 g1 g2 g3 g4 h1 h2 h3 h4 h5 ma m1 m2 m3 m4 m5 m6 m7 m8 o1 o2 : Nat} {z1 z2 z3 z4 : ClassId}  {H : Heap} {locs : List Loc} {ls : Array Slot} (hh : kH D kStr e0 A s H (lwW e0 xa x1 x2 x3 x4 x5 g1 g2 g3 g4 h1 h2 h3 h4 h5 ma m1 m2 m3 m4 m5 m6 m7 m8 o1 o2 z1 z2 z3 z4) (lwT z1 z2 z3 z4) locs) (hl : lv_has ls 9 (lwL b xa ma o1 o2)) (kk : lwK p l e s m below meth c Q b A) : W p l e room_1 s m #[Value.ref b] below meth c H locs 100 10000 Q (F0 m 860 ls []) := by
  have hh : kH D kStr e0 A s H [(xa, .inr (11, [.ref x1, .int 0, .ref x2, .int 0, .ref x3, .ref x4, .ref x5, .int 0])), (ma, .inr (16, [.int 0, .ref m1, .ref m2, .ref m3, .ref m4, .ref m5, .ref m6, .ref m7, .ref m8, .int 0, .int 0])), (m2, .inr (4, [.int 0, .ref e0.1, .int 0])), (o1, .inl (z3, 1, .inr (.inl (fun _ => 0))))] [(z3, .long)] _ := hh.sub [0, 5, 7, 14] [2] rfl rfl rfl
  have hl : lv_has ls 9 [(5, .int 0), (4, .ref o2), (3, .ref o1), (2, .ref ma), (1, .ref xa), (0, .ref b)] := hl
  refine lv_aload_n hx hb dL_law_860 rfl (lv_at hl 4 rfl) ?_
  refine lv_aload_n hx hb dL_law_861 rfl (lv_at hl 5 rfl) ?_
  refine lv_iload hx hb dL_law_862 (lv_at hl 0 rfl) ?_
  refine lv_iconst (v := 1) hx hb dL_law_864 (by decide) ?_
  refine lv_iadd hx hb dL_law_865 ?_
  refine W.eq (g2 := F0 m 866 ls [.int 1, .ref b, .ref xa]) (by first | rfl | decide) ?_
  refine va_sld hx hb hX hbl hbA hh.2.2.2.1 (by unfold vp_in; decide) dL_law_866 ?_
  refine W.eq (g2 := F0 m 867 ls [.int (xs 1), .ref xa]) rfl ?_
  refine lv_aload_n hx hb dL_law_867 rfl (lv_at hl 5 rfl) ?_
  refine lv_iload hx hb dL_law_868 (lv_at hl 0 rfl) ?_
  refine lv_iconst (v := 2) hx hb dL_law_870 (by decide) ?_
  refine lv_iadd hx hb dL_law_871 ?_
  refine W.eq (g2 := F0 m 872 ls [.int 2, .ref b, .int (xs 1), .ref xa]) (by first | rfl | decide) ?_
  refine va_sld hx hb hX hbl hbA hh.2.2.2.1 (by unfold vp_in; decide) dL_law_872 ?_
  refine W.eq (g2 := F0 m 873 ls [.int (xs 2), .int (xs 1), .ref xa]) rfl ?_
  refine lv_aload_n hx hb dL_law_873 rfl (lv_at hl 5 rfl) ?_
  refine lv_iload hx hb dL_law_874 (lv_at hl 0 rfl) ?_
  refine lv_iconst (v := 3) hx hb dL_law_876 (by decide) ?_
  refine lv_iadd hx hb dL_law_877 ?_
  refine W.eq (g2 := F0 m 878 ls [.int 3, .ref b, .int (xs 2), .int (xs 1), .ref xa]) (by first | rfl | decide) ?_
  refine va_sld hx hb hX hbl hbA hh.2.2.2.1 (by unfold vp_in; decide) dL_law_878 ?_
  refine W.eq (g2 := F0 m 879 ls [.int (xs 3), .int (xs 2), .int (xs 1), .ref xa]) rfl ?_
  refine lv_aload_n hx hb dL_law_879 rfl (lv_at hl 5 rfl) ?_
  refine lv_iload hx hb dL_law_880 (lv_at hl 0 rfl) ?_
  refine lv_iconst (v := 4) hx hb dL_law_882 (by decide) ?_
  refine lv_iadd hx hb dL_law_883 ?_
  refine W.eq (g2 := F0 m 884 ls [.int 4, .ref b, .int (xs 3), .int (xs 2), .int (xs 1), .ref xa]) (by first | rfl | decide) ?_
  refine va_sld hx hb hX hbl hbA hh.2.2.2.1 (by unfold vp_in; decide) dL_law_884 ?_
  refine W.eq (g2 := F0 m 885 ls [.int (xs 4), .int (xs 3), .int (xs 2), .int (xs 1), .ref xa]) rfl ?_
  refine lv_aload_n hx hb dL_law_885 rfl (lv_at hl 2 rfl) ?_
  refine k_callSX (wr := [(ma, .inr (16, [.int 0, .ref m1, .ref m2, .ref m3, .ref m4, .ref m5, .ref m6, .ref m7, .ref m8, .int 0, .int 0])), (m2, .inr (4, [.int 0, .ref e0.1, .int 0]))]) (rest := []) (own := RL) ⟨hx, hb, hml, hown, hts⟩ (c_L_limit l hst D e0 xa x1 x2 x3 x4 x5 ((xs 1)) ((xs 2)) ((xs 3)) ((xs 4)) o1 z3 ((fun _ => 0)) ) (vx_cwSW 6 hts gl_S_c_L_limit rfl rfl rfl (by decide +kernel) ⟨Nat.le_of_ble_eq_true rfl, Nat.le_of_ble_eq_true rfl⟩) hh [0, 3] [1, 2] [0] rfl rfl rfl rfl (by decide) rfl rfl hl rfl (Nat.le_of_ble_eq_true rfl) dL_law_886 ⟨Nat.le_of_ble_eq_true rfl, (Nat.le_of_ble_eq_true rfl)⟩ (fun _ _ _ _ _ h => h.elim) (fun v w ty1 H locs hp hh => ?_)
  obtain ⟨rfl, rfl, rfl⟩ := hp
  have hh : kH D kStr e0 A s H [(ma, .inr (16, [.int 0, .ref m1, .ref m2, .ref m3, .ref m4, .ref m5, .ref m6, .ref m7, .ref m8, .int 0, .int 0])), (m2, .inr (4, [.int 0, .ref e0.1, .int 0])), (o1, .inl (z3, 1, .inr (.inl (fun _ => 0))))] [(z3, .long), (z3, .long)] _ := hh
  refine W.eq (g2 := F0 m 889 ls [.int 1]) (by first | rfl | decide) ?_
  refine lv_istore (lv' := [(6, .int 1), (5, .int 0), (4, .ref o2), (3, .ref o1), (2, .ref ma), (1, .ref xa), (0, .ref b)]) hx hb dL_law_889 hl (by decide) rfl (fun ls hl => ?_)
  refine lv_aload_n hx hb dL_law_891 rfl (lv_at hl 4 rfl) ?_
  refine lv_aload_n hx hb dL_law_892 rfl (lv_at hl 6 rfl) ?_
  refine lv_iload hx hb dL_law_893 (lv_at hl 1 rfl) ?_
  refine lv_iconst (v := 1) hx hb dL_law_895 (by decide) ?_
  refine lv_iadd hx hb dL_law_896 ?_
  refine W.eq (g2 := F0 m 897 ls [.int 1, .ref b, .ref ma]) (by first | rfl | decide) ?_
  refine va_sld hx hb hX hbl hbA hh.2.2.2.1 (by unfold vp_in; decide) dL_law_897 ?_
  refine W.eq (g2 := F0 m 898 ls [.int (xs 1), .ref ma]) rfl ?_
  refine lv_aload_n hx hb dL_law_898 rfl (lv_at hl 6 rfl) ?_
  refine lv_iload hx hb dL_law_899 (lv_at hl 1 rfl) ?_
  refine lv_iconst (v := 2) hx hb dL_law_901 (by decide) ?_
  refine lv_iadd hx hb dL_law_902 ?_
  refine W.eq (g2 := F0 m 903 ls [.int 2, .ref b, .int (xs 1), .ref ma]) (by first | rfl | decide) ?_
  refine va_sld hx hb hX hbl hbA hh.2.2.2.1 (by unfold vp_in; decide) dL_law_903 ?_
  refine W.eq (g2 := F0 m 904 ls [.int (xs 2), .int (xs 1), .ref ma]) rfl ?_
  refine lv_aload_n hx hb dL_law_904 rfl (lv_at hl 6 rfl) ?_
  refine lv_iload hx hb dL_law_905 (lv_at hl 1 rfl) ?_
  refine lv_iconst (v := 3) hx hb dL_law_907 (by decide) ?_
  refine lv_iadd hx hb dL_law_908 ?_
  refine W.eq (g2 := F0 m 909 ls [.int 3, .ref b, .int (xs 2), .int (xs 1), .ref ma]) (by first | rfl | decide) ?_
  refine va_sld hx hb hX hbl hbA hh.2.2.2.1 (by unfold vp_in; decide) dL_law_909 ?_
  refine W.eq (g2 := F0 m 910 ls [.int (xs 3), .int (xs 2), .int (xs 1), .ref ma]) rfl ?_
  refine lv_aload_n hx hb dL_law_910 rfl (lv_at hl 6 rfl) ?_
  refine lv_iload hx hb dL_law_911 (lv_at hl 1 rfl) ?_
  refine lv_iconst (v := 4) hx hb dL_law_913 (by decide) ?_
  refine lv_iadd hx hb dL_law_914 ?_
  refine W.eq (g2 := F0 m 915 ls [.int 4, .ref b, .int (xs 3), .int (xs 2), .int (xs 1), .ref ma]) (by first | rfl | decide) ?_
  refine va_sld hx hb hX hbl hbA hh.2.2.2.1 (by unfold vp_in; decide) dL_law_915 ?_
  refine W.eq (g2 := F0 m 916 ls [.int (xs 4), .int (xs 3), .int (xs 2), .int (xs 1), .ref ma]) rfl ?_
  refine k_callV (C := RX11) (T := TX11) (N := 11) (ci := 16) (q0 := 0) (wr := [(o1, .inl (z3, 1, .inr (.inl (fun _ => 0))))]) (rest := []) (own := RL) ⟨hx, hb, hml, hown, hts⟩ (c_X11_limit l hst D e0 ma 0 m1 m2 m3 m4 m5 m6 m7 m8 ((xs 1)) ((xs 2)) ((xs 3)) ((xs 4)) ) (cwV 4 hts gl_V_c_X11_limit rfl rfl rfl (by decide +kernel) ⟨Nat.le_of_ble_eq_true rfl, Nat.le_of_ble_eq_true rfl⟩) hh rfl rfl [0, 1] [2] [] rfl rfl rfl rfl (by decide) rfl rfl hl rfl (Nat.le_of_ble_eq_true rfl) dL_law_916 ⟨Nat.le_of_ble_eq_true rfl, (Nat.le_of_ble_eq_true rfl)⟩ (fun _ _ _ _ _ h => h.elim) (fun v w ty1 H locs hp hh => ?_)
  obtain ⟨rfl, rfl, rfl⟩ := hp
  have hh : kH D kStr e0 A s H [(o1, .inl (z3, 1, .inr (.inl (fun _ => 0)))), (ma, .inr (16, [.int 1, .ref m1, .ref m2, .ref m3, .ref m4, .ref m5, .ref m6, .ref m7, .ref m8, .int 0, .int 0]))] [(z3, .long), (z3, .long)] _ := hh
  refine W.eq (g2 := F0 m 919 ls [.int 0]) (by first | rfl | decide) ?_
  refine lv_istore (lv' := [(7, .int 0), (6, .int 1), (5, .int 0), (4, .ref o2), (3, .ref o1), (2, .ref ma), (1, .ref xa), (0, .ref b)]) hx hb dL_law_919 hl (by decide) rfl (fun ls hl => ?_)
  refine lv_aload_n hx hb dL_law_921 rfl (lv_at hl 5 rfl) ?_
  refine k_callV (C := RX11) (T := TX11) (N := 11) (ci := 16) (q0 := 1) (wr := [(o1, .inl (z3, 1, .inr (.inl (fun _ => 0))))]) (rest := []) (own := RL) ⟨hx, hb, hml, hown, hts⟩ (c_X11_thrown l hst D e0 ma 1 m1 m2 m3 m4 m5 m6 m7 m8 ) (cwV 0 hts gl_V_c_X11_thrown rfl rfl rfl (by decide +kernel) ⟨Nat.le_of_ble_eq_true rfl, Nat.le_of_ble_eq_true rfl⟩) hh rfl rfl [1] [0] [] rfl rfl rfl rfl (by decide) rfl rfl hl rfl (Nat.le_of_ble_eq_true rfl) dL_law_922 ⟨Nat.le_of_ble_eq_true rfl, (Nat.le_of_ble_eq_true rfl)⟩ (fun _ _ _ _ _ h => h.elim) (fun v w ty1 H locs hp hh => ?_)
  obtain ⟨rfl, rfl, rfl⟩ := hp
  have hh : kH D kStr e0 A s H [(o1, .inl (z3, 1, .inr (.inl (fun _ => 0)))), (ma, .inr (16, [.int 1, .ref m1, .ref m2, .ref m3, .ref m4, .ref m5, .ref m6, .ref m7, .ref m8, .int 0, .int 0]))] [(z3, .long), (z3, .long)] _ := hh
  refine W.eq (g2 := F0 m 925 ls [.int 1]) (by first | rfl | decide) ?_
  refine lv_iload hx hb dL_law_925 (lv_at hl 1 rfl) ?_
  refine lv_icmp_eq (tgt := 932) hx hb dL_law_927 (by decide) (fun _ => ?_) (fun c_927 => absurd (by decide) c_927)
  refine lv_iload hx hb dL_law_932 (lv_at hl 1 rfl) ?_
  refine lv_if_ne (tgt := 949) hx hb dL_law_934 (by decide) (fun _ => ?_) (fun c_934 => absurd c_934 (by decide))
  refine lv_goto (tgt := 3429) hx hb dL_law_949 (by decide) ?_
  refine W.widen (k := 1000) (n := 100000) (Nat.le_of_ble_eq_true rfl) (Nat.le_of_ble_eq_true rfl) ?_
  exact kk _ _ _ hh.2.2.2.1 (lv_sub hl [7, 2] rfl)
set_option maxHeartbeats 4000000 in
set_option maxRecDepth 100000 in
theorem law_10 {p : Program} {l : Launch} {e : Env} {s : State} {m : MethodId} {below : List Frame} {meth : Method} {c : Code} {Q : State → Prop} {b : Nat} {xs : Nat → Int32} {D : va_G} {e0 : kE} {A : Nat → Prop} (hst : l.stackTraces = false) (hx : p.tables.exec = Jvm.exec) (hb : c.code = cL_law) (hml : c.maxLocals = 9) (hts : ∀ w ∈ lw_tbl, w.before #[Value.ref b] s = true) (hown : s.vm.findClass RL = some m.cls) (hX : va_X b 5 xs s s.heap) (hbl : b < s.heap.size) (hbA : ¬ A b) {xa x1 x2 x3 x4 x5 g1 g2 g3 g4 h1 h2 h3 h4 h5 ma m1 m2 m3 m4 m5 m6 m7 m8 o1 o2 : Nat} {z1 z2 z3 z4 : ClassId}  {H : Heap} {locs : List Loc} {ls : Array Slot} (hh : kH D kStr e0 A s H (lwW e0 xa x1 x2 x3 x4 x5 g1 g2 g3 g4 h1 h2 h3 h4 h5 ma m1 m2 m3 m4 m5 m6 m7 m8 o1 o2 z1 z2 z3 z4) (lwT z1 z2 z3 z4) locs) (hl : lv_has ls 9 (lwL b xa ma o1 o2)) (kk : lwK p l e s m below meth c Q b A) : W p l e room_1 s m #[Value.ref b] below meth c H locs 100 10000 Q (F0 m 952 ls []) := by
  have hh : kH D kStr e0 A s H [(xa, .inr (11, [.ref x1, .int 0, .ref x2, .int 0, .ref x3, .ref x4, .ref x5, .int 0])), (ma, .inr (16, [.int 0, .ref m1, .ref m2, .ref m3, .ref m4, .ref m5, .ref m6, .ref m7, .ref m8, .int 0, .int 0])), (m2, .inr (4, [.int 0, .ref e0.1, .int 0])), (o1, .inl (z3, 1, .inr (.inl (fun _ => 0))))] [(z3, .long)] _ := hh.sub [0, 5, 7, 14] [2] rfl rfl rfl
  have hl : lv_has ls 9 [(5, .int 0), (4, .ref o2), (3, .ref o1), (2, .ref ma), (1, .ref xa), (0, .ref b)] := hl
  refine lv_aload_n hx hb dL_law_952 rfl (lv_at hl 4 rfl) ?_
  refine lv_aload_n hx hb dL_law_953 rfl (lv_at hl 5 rfl) ?_
  refine lv_iload hx hb dL_law_954 (lv_at hl 0 rfl) ?_
  refine lv_iconst (v := 1) hx hb dL_law_956 (by decide) ?_
  refine lv_iadd hx hb dL_law_957 ?_
  refine W.eq (g2 := F0 m 958 ls [.int 1, .ref b, .ref xa]) (by first | rfl | decide) ?_
  refine va_sld hx hb hX hbl hbA hh.2.2.2.1 (by unfold vp_in; decide) dL_law_958 ?_
  refine W.eq (g2 := F0 m 959 ls [.int (xs 1), .ref xa]) rfl ?_
  refine lv_aload_n hx hb dL_law_959 rfl (lv_at hl 5 rfl) ?_
  refine lv_iload hx hb dL_law_960 (lv_at hl 0 rfl) ?_
  refine lv_iconst (v := 2) hx hb dL_law_962 (by decide) ?_
  refine lv_iadd hx hb dL_law_963 ?_
  refine W.eq (g2 := F0 m 964 ls [.int 2, .ref b, .int (xs 1), .ref xa]) (by first | rfl | decide) ?_
  refine va_sld hx hb hX hbl hbA hh.2.2.2.1 (by unfold vp_in; decide) dL_law_964 ?_
  refine W.eq (g2 := F0 m 965 ls [.int (xs 2), .int (xs 1), .ref xa]) rfl ?_
  refine lv_aload_n hx hb dL_law_965 rfl (lv_at hl 5 rfl) ?_
  refine lv_iload hx hb dL_law_966 (lv_at hl 0 rfl) ?_
  refine lv_iconst (v := 3) hx hb dL_law_968 (by decide) ?_
  refine lv_iadd hx hb dL_law_969 ?_
  refine W.eq (g2 := F0 m 970 ls [.int 3, .ref b, .int (xs 2), .int (xs 1), .ref xa]) (by first | rfl | decide) ?_
  refine va_sld hx hb hX hbl hbA hh.2.2.2.1 (by unfold vp_in; decide) dL_law_970 ?_
  refine W.eq (g2 := F0 m 971 ls [.int (xs 3), .int (xs 2), .int (xs 1), .ref xa]) rfl ?_
  refine lv_aload_n hx hb dL_law_971 rfl (lv_at hl 2 rfl) ?_
  refine k_callSX (wr := [(ma, .inr (16, [.int 0, .ref m1, .ref m2, .ref m3, .ref m4, .ref m5, .ref m6, .ref m7, .ref m8, .int 0, .int 0])), (m2, .inr (4, [.int 0, .ref e0.1, .int 0]))]) (rest := []) (own := RL) ⟨hx, hb, hml, hown, hts⟩ (c_L_resample l hst D e0 xa x1 x2 x3 x4 x5 ((xs 1)) ((xs 2)) ((xs 3)) o1 z3 ((fun _ => 0)) ) (vx_cwSW 5 hts gl_S_c_L_resample rfl rfl rfl (by decide +kernel) ⟨Nat.le_of_ble_eq_true rfl, Nat.le_of_ble_eq_true rfl⟩) hh [0, 3] [1, 2] [0] rfl rfl rfl rfl (by decide) rfl rfl hl rfl (Nat.le_of_ble_eq_true rfl) dL_law_972 ⟨Nat.le_of_ble_eq_true rfl, (Nat.le_of_ble_eq_true rfl)⟩ (fun _ _ _ _ _ h => h.elim) (fun v w ty1 H locs hp hh => ?_)
  obtain ⟨rfl, rfl, rfl⟩ := hp
  have hh : kH D kStr e0 A s H [(ma, .inr (16, [.int 0, .ref m1, .ref m2, .ref m3, .ref m4, .ref m5, .ref m6, .ref m7, .ref m8, .int 0, .int 0])), (m2, .inr (4, [.int 0, .ref e0.1, .int 0])), (o1, .inl (z3, 1, .inr (.inl (fun _ => 0))))] [(z3, .long), (z3, .long)] _ := hh
  refine W.eq (g2 := F0 m 975 ls [.int 1]) (by first | rfl | decide) ?_
  refine lv_istore (lv' := [(6, .int 1), (5, .int 0), (4, .ref o2), (3, .ref o1), (2, .ref ma), (1, .ref xa), (0, .ref b)]) hx hb dL_law_975 hl (by decide) rfl (fun ls hl => ?_)
  refine lv_aload_n hx hb dL_law_977 rfl (lv_at hl 4 rfl) ?_
  refine lv_aload_n hx hb dL_law_978 rfl (lv_at hl 6 rfl) ?_
  refine lv_iload hx hb dL_law_979 (lv_at hl 1 rfl) ?_
  refine lv_iconst (v := 1) hx hb dL_law_981 (by decide) ?_
  refine lv_iadd hx hb dL_law_982 ?_
  refine W.eq (g2 := F0 m 983 ls [.int 1, .ref b, .ref ma]) (by first | rfl | decide) ?_
  refine va_sld hx hb hX hbl hbA hh.2.2.2.1 (by unfold vp_in; decide) dL_law_983 ?_
  refine W.eq (g2 := F0 m 984 ls [.int (xs 1), .ref ma]) rfl ?_
  refine lv_aload_n hx hb dL_law_984 rfl (lv_at hl 6 rfl) ?_
  refine lv_iload hx hb dL_law_985 (lv_at hl 1 rfl) ?_
  refine lv_iconst (v := 2) hx hb dL_law_987 (by decide) ?_
  refine lv_iadd hx hb dL_law_988 ?_
  refine W.eq (g2 := F0 m 989 ls [.int 2, .ref b, .int (xs 1), .ref ma]) (by first | rfl | decide) ?_
  refine va_sld hx hb hX hbl hbA hh.2.2.2.1 (by unfold vp_in; decide) dL_law_989 ?_
  refine W.eq (g2 := F0 m 990 ls [.int (xs 2), .int (xs 1), .ref ma]) rfl ?_
  refine lv_aload_n hx hb dL_law_990 rfl (lv_at hl 6 rfl) ?_
  refine lv_iload hx hb dL_law_991 (lv_at hl 1 rfl) ?_
  refine lv_iconst (v := 3) hx hb dL_law_993 (by decide) ?_
  refine lv_iadd hx hb dL_law_994 ?_
  refine W.eq (g2 := F0 m 995 ls [.int 3, .ref b, .int (xs 2), .int (xs 1), .ref ma]) (by first | rfl | decide) ?_
  refine va_sld hx hb hX hbl hbA hh.2.2.2.1 (by unfold vp_in; decide) dL_law_995 ?_
  refine W.eq (g2 := F0 m 996 ls [.int (xs 3), .int (xs 2), .int (xs 1), .ref ma]) rfl ?_
  refine k_callV (C := RX11) (T := TX11) (N := 11) (ci := 16) (q0 := 0) (wr := [(o1, .inl (z3, 1, .inr (.inl (fun _ => 0))))]) (rest := []) (own := RL) ⟨hx, hb, hml, hown, hts⟩ (c_X11_resample l hst D e0 ma 0 m1 m2 m3 m4 m5 m6 m7 m8 ((xs 1)) ((xs 2)) ((xs 3)) ) (cwV 3 hts gl_V_c_X11_resample rfl rfl rfl (by decide +kernel) ⟨Nat.le_of_ble_eq_true rfl, Nat.le_of_ble_eq_true rfl⟩) hh rfl rfl [0, 1] [2] [] rfl rfl rfl rfl (by decide) rfl rfl hl rfl (Nat.le_of_ble_eq_true rfl) dL_law_996 ⟨Nat.le_of_ble_eq_true rfl, (Nat.le_of_ble_eq_true rfl)⟩ (fun _ _ _ _ _ h => h.elim) (fun v w ty1 H locs hp hh => ?_)
  obtain ⟨rfl, rfl, rfl⟩ := hp
  have hh : kH D kStr e0 A s H [(o1, .inl (z3, 1, .inr (.inl (fun _ => 0)))), (ma, .inr (16, [.int 1, .ref m1, .ref m2, .ref m3, .ref m4, .ref m5, .ref m6, .ref m7, .ref m8, .int 0, .int 0]))] [(z3, .long), (z3, .long)] _ := hh
  refine W.eq (g2 := F0 m 999 ls [.int 0]) (by first | rfl | decide) ?_
  refine lv_istore (lv' := [(7, .int 0), (6, .int 1), (5, .int 0), (4, .ref o2), (3, .ref o1), (2, .ref ma), (1, .ref xa), (0, .ref b)]) hx hb dL_law_999 hl (by decide) rfl (fun ls hl => ?_)
  refine lv_aload_n hx hb dL_law_1001 rfl (lv_at hl 5 rfl) ?_
  refine k_callV (C := RX11) (T := TX11) (N := 11) (ci := 16) (q0 := 1) (wr := [(o1, .inl (z3, 1, .inr (.inl (fun _ => 0))))]) (rest := []) (own := RL) ⟨hx, hb, hml, hown, hts⟩ (c_X11_thrown l hst D e0 ma 1 m1 m2 m3 m4 m5 m6 m7 m8 ) (cwV 0 hts gl_V_c_X11_thrown rfl rfl rfl (by decide +kernel) ⟨Nat.le_of_ble_eq_true rfl, Nat.le_of_ble_eq_true rfl⟩) hh rfl rfl [1] [0] [] rfl rfl rfl rfl (by decide) rfl rfl hl rfl (Nat.le_of_ble_eq_true rfl) dL_law_1002 ⟨Nat.le_of_ble_eq_true rfl, (Nat.le_of_ble_eq_true rfl)⟩ (fun _ _ _ _ _ h => h.elim) (fun v w ty1 H locs hp hh => ?_)
  obtain ⟨rfl, rfl, rfl⟩ := hp
  have hh : kH D kStr e0 A s H [(o1, .inl (z3, 1, .inr (.inl (fun _ => 0)))), (ma, .inr (16, [.int 1, .ref m1, .ref m2, .ref m3, .ref m4, .ref m5, .ref m6, .ref m7, .ref m8, .int 0, .int 0]))] [(z3, .long), (z3, .long)] _ := hh
  refine W.eq (g2 := F0 m 1005 ls [.int 1]) (by first | rfl | decide) ?_
  refine lv_iload hx hb dL_law_1005 (lv_at hl 1 rfl) ?_
  refine lv_icmp_eq (tgt := 1012) hx hb dL_law_1007 (by decide) (fun _ => ?_) (fun c_1007 => absurd (by decide) c_1007)
  refine lv_iload hx hb dL_law_1012 (lv_at hl 1 rfl) ?_
  refine lv_if_ne (tgt := 1029) hx hb dL_law_1014 (by decide) (fun _ => ?_) (fun c_1014 => absurd c_1014 (by decide))
  refine lv_goto (tgt := 3429) hx hb dL_law_1029 (by decide) ?_
  refine W.widen (k := 1000) (n := 100000) (Nat.le_of_ble_eq_true rfl) (Nat.le_of_ble_eq_true rfl) ?_
  exact kk _ _ _ hh.2.2.2.1 (lv_sub hl [7, 2] rfl)
