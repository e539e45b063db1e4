theorem dL_updates_295 : decode cL_updates 295 = .ok (.iaload, 1) := by decide +kernel
theorem dL_updates_296 : decode cL_updates 296 = .ok (.aload 4, 2) := by decide +kernel
theorem dL_updates_298 : decode cL_updates 298 = .ok (.iconst 5, 1) := by decide +kernel
theorem dL_updates_299 : decode cL_updates 299 = .ok (.iaload, 1) := by decide +kernel
theorem dL_updates_300 : decode cL_updates 300 = .ok (.if_icmp .ge 7, 3) := by decide +kernel
theorem dL_updates_303 : decode cL_updates 303 = .ok (.iconst 1, 1) := by decide +kernel
theorem dL_updates_304 : decode cL_updates 304 = .ok (.goto 4, 3) := by decide +kernel
theorem dL_updates_307 : decode cL_updates 307 = .ok (.iconst 0, 1) := by decide +kernel
theorem dL_updates_308 : decode cL_updates 308 = .ok (.istore 9, 2) := by decide +kernel
theorem dL_updates_310 : decode cL_updates 310 = .ok (.iload 6, 2) := by decide +kernel
theorem dL_updates_312 : decode cL_updates 312 = .ok (.bipush 11, 2) := by decide +kernel
theorem dL_updates_314 : decode cL_updates 314 = .ok (.irem, 1) := by decide +kernel
theorem dL_updates_315 : decode cL_updates 315 = .ok (.ifCond .ne 12, 3) := by decide +kernel
theorem dL_updates_318 : decode cL_updates 318 = .ok (.iload 6, 2) := by decide +kernel
theorem dL_updates_320 : decode cL_updates 320 = .ok (.sipush 256, 3) := by decide +kernel
theorem dL_updates_323 : decode cL_updates 323 = .ok (.irem, 1) := by decide +kernel
theorem dL_updates_324 : decode cL_updates 324 = .ok (.goto 18, 3) := by decide +kernel
theorem dL_updates_327 : decode cL_updates 327 = .ok (.iload 9, 2) := by decide +kernel
theorem dL_updates_329 : decode cL_updates 329 = .ok (.ifCond .eq 12, 3) := by decide +kernel
theorem dL_updates_332 : decode cL_updates 332 = .ok (.aload 4, 2) := by decide +kernel
theorem dL_updates_334 : decode cL_updates 334 = .ok (.iconst 3, 1) := by decide +kernel
theorem dL_updates_335 : decode cL_updates 335 = .ok (.iaload, 1) := by decide +kernel
theorem dL_updates_336 : decode cL_updates 336 = .ok (.iconst 3, 1) := by decide +kernel
theorem dL_updates_337 : decode cL_updates 337 = .ok (.iadd, 1) := by decide +kernel
theorem dL_updates_338 : decode cL_updates 338 = .ok (.goto 4, 3) := by decide +kernel
theorem dL_updates_341 : decode cL_updates 341 = .ok (.iconst 0, 1) := by decide +kernel
theorem dL_updates_342 : decode cL_updates 342 = .ok (.istore 10, 2) := by decide +kernel
theorem dL_updates_344 : decode cL_updates 344 = .ok (.iload 9, 2) := by decide +kernel
theorem dL_updates_346 : decode cL_updates 346 = .ok (.ifCond .eq 26, 3) := by decide +kernel
theorem dL_updates_349 : decode cL_updates 349 = .ok (.aload_n 1, 1) := by decide +kernel
theorem dL_updates_350 : decode cL_updates 350 = .ok (.iload 8, 2) := by decide +kernel
theorem dL_updates_352 : decode cL_updates 352 = .ok (.iconst 5, 1) := by decide +kernel
theorem dL_updates_353 : decode cL_updates 353 = .ok (.iadd, 1) := by decide +kernel
theorem dL_updates_354 : decode cL_updates 354 = .ok (.aload 4, 2) := by decide +kernel
theorem dL_updates_356 : decode cL_updates 356 = .ok (.iconst 3, 1) := by decide +kernel
theorem dL_updates_357 : decode cL_updates 357 = .ok (.iaload, 1) := by decide +kernel
theorem dL_updates_358 : decode cL_updates 358 = .ok (.iadd, 1) := by decide +kernel
theorem dL_updates_359 : decode cL_updates 359 = .ok (.iload 10, 2) := by decide +kernel
theorem dL_updates_361 : decode cL_updates 361 = .ok (.invokestatic 33, 3) := by decide +kernel
theorem dL_updates_364 : decode cL_updates 364 = .ok (.aload 4, 2) := by decide +kernel
theorem dL_updates_366 : decode cL_updates 366 = .ok (.iconst 3, 1) := by decide +kernel
theorem dL_updates_367 : decode cL_updates 367 = .ok (.dup2, 1) := by decide +kernel
theorem dL_updates_368 : decode cL_updates 368 = .ok (.iaload, 1) := by decide +kernel
theorem dL_updates_369 : decode cL_updates 369 = .ok (.iconst 1, 1) := by decide +kernel
theorem dL_updates_370 : decode cL_updates 370 = .ok (.iadd, 1) := by decide +kernel
theorem dL_updates_371 : decode cL_updates 371 = .ok (.iastore, 1) := by decide +kernel
theorem dL_updates_372 : decode cL_updates 372 = .ok (.aload_n 1, 1) := by decide +kernel
theorem dL_updates_373 : decode cL_updates 373 = .ok (.aload_n 2, 1) := by decide +kernel
theorem dL_updates_374 : decode cL_updates 374 = .ok (.aload_n 3, 1) := by decide +kernel
theorem dL_updates_375 : decode cL_updates 375 = .ok (.aload 4, 2) := by decide +kernel
theorem dL_updates_377 : decode cL_updates 377 = .ok (.invokestatic 58, 3) := by decide +kernel
theorem dL_updates_380 : decode cL_updates 380 = .ok (.iconst 1, 1) := by decide +kernel
theorem dL_updates_381 : decode cL_updates 381 = .ok (.if_icmp .ne 7, 3) := by decide +kernel
theorem dL_updates_384 : decode cL_updates 384 = .ok (.iconst 1, 1) := by decide +kernel
theorem dL_updates_385 : decode cL_updates 385 = .ok (.goto 4, 3) := by decide +kernel
theorem dL_updates_388 : decode cL_updates 388 = .ok (.iconst 0, 1) := by decide +kernel
theorem dL_updates_389 : decode cL_updates 389 = .ok (.istore 11, 2) := by decide +kernel
theorem dL_updates_391 : decode cL_updates 391 = .ok (.aload_n 0, 1) := by decide +kernel
theorem dL_updates_392 : decode cL_updates 392 = .ok (.iload 10, 2) := by decide +kernel
theorem dL_updates_394 : decode cL_updates 394 = .ok (.invokestatic 101, 3) := by decide +kernel
theorem dL_updates_397 : decode cL_updates 397 = .ok (.iload 9, 2) := by decide +kernel
theorem dL_updates_399 : decode cL_updates 399 = .ok (.ifCond .ne 8, 3) := by decide +kernel
theorem dL_updates_402 : decode cL_updates 402 = .ok (.bipush (-2), 2) := by decide +kernel
theorem dL_updates_404 : decode cL_updates 404 = .ok (.goto 13, 3) := by decide +kernel
theorem dL_updates_407 : decode cL_updates 407 = .ok (.iload 11, 2) := by decide +kernel
theorem dL_updates_409 : decode cL_updates 409 = .ok (.ifCond .eq 7, 3) := by decide +kernel
theorem dL_updates_412 : decode cL_updates 412 = .ok (.iconst 1, 1) := by decide +kernel
theorem dL_updates_413 : decode cL_updates 413 = .ok (.goto 4, 3) := by decide +kernel
theorem dL_updates_416 : decode cL_updates 416 = .ok (.iconst 0, 1) := by decide +kernel
theorem dL_updates_417 : decode cL_updates 417 = .ok (.if_icmp .ne 7, 3) := by decide +kernel
theorem dL_updates_420 : decode cL_updates 420 = .ok (.iconst 1, 1) := by decide +kernel
theorem dL_updates_421 : decode cL_updates 421 = .ok (.goto 4, 3) := by decide +kernel
theorem dL_updates_424 : decode cL_updates 424 = .ok (.iconst 0, 1) := by decide +kernel
theorem dL_updates_425 : decode cL_updates 425 = .ok (.ireturn, 1) := by decide +kernel
theorem dL_updates_426 : decode cL_updates 426 = .ok (.iload 5, 2) := by decide +kernel
theorem dL_updates_428 : decode cL_updates 428 = .ok (.bipush 7, 2) := by decide +kernel
theorem dL_updates_430 : decode cL_updates 430 = .ok (.if_icmp .ne 206, 3) := by decide +kernel
theorem dL_updates_433 : decode cL_updates 433 = .ok (.iload 6, 2) := by decide +kernel
theorem dL_updates_435 : decode cL_updates 435 = .ok (.bipush 6, 2) := by decide +kernel
theorem dL_updates_437 : decode cL_updates 437 = .ok (.irem, 1) := by decide +kernel
theorem dL_updates_438 : decode cL_updates 438 = .ok (.istore 9, 2) := by decide +kernel
theorem dL_updates_440 : decode cL_updates 440 = .ok (.iconst 1, 1) := by decide +kernel
theorem dL_updates_441 : decode cL_updates 441 = .ok (.iload 6, 2) := by decide +kernel
theorem dL_updates_443 : decode cL_updates 443 = .ok (.bipush 6, 2) := by decide +kernel
theorem dL_updates_445 : decode cL_updates 445 = .ok (.idiv, 1) := by decide +kernel
theorem dL_updates_446 : decode cL_updates 446 = .ok (.iconst 3, 1) := by decide +kernel
theorem dL_updates_447 : decode cL_updates 447 = .ok (.irem, 1) := by decide +kernel
theorem dL_updates_448 : decode cL_updates 448 = .ok (.iadd, 1) := by decide +kernel
theorem dL_updates_449 : decode cL_updates 449 = .ok (.istore 10, 2) := by decide +kernel
theorem dL_updates_451 : decode cL_updates 451 = .ok (.iload 7, 2) := by decide +kernel
theorem dL_updates_453 : decode cL_updates 453 = .ok (.ifCond .eq 22, 3) := by decide +kernel
theorem dL_updates_456 : decode cL_updates 456 = .ok (.iload 9, 2) := by decide +kernel
theorem dL_updates_458 : decode cL_updates 458 = .ok (.iload 10, 2) := by decide +kernel
theorem dL_updates_460 : decode cL_updates 460 = .ok (.iadd, 1) := by decide +kernel
theorem dL_updates_461 : decode cL_updates 461 = .ok (.aload_n 2, 1) := by decide +kernel
theorem dL_updates_462 : decode cL_updates 462 = .ok (.bipush 32, 2) := by decide +kernel
theorem dL_updates_464 : decode cL_updates 464 = .ok (.aload 4, 2) := by decide +kernel
theorem dL_updates_466 : decode cL_updates 466 = .ok (.iconst 0, 1) := by decide +kernel
theorem dL_updates_467 : decode cL_updates 467 = .ok (.iaload, 1) := by decide +kernel
theorem dL_updates_468 : decode cL_updates 468 = .ok (.imul, 1) := by decide +kernel
theorem dL_updates_469 : decode cL_updates 469 = .ok (.iconst 2, 1) := by decide +kernel
theorem dL_updates_470 : decode cL_updates 470 = .ok (.iadd, 1) := by decide +kernel
theorem dL_updates_471 : decode cL_updates 471 = .ok (.iaload, 1) := by decide +kernel
theorem dL_updates_472 : decode cL_updates 472 = .ok (.if_icmp .gt 7, 3) := by decide +kernel
theorem dL_updates_475 : decode cL_updates 475 = .ok (.iconst 1, 1) := by decide +kernel
theorem dL_updates_476 : decode cL_updates 476 = .ok (.goto 4, 3) := by decide +kernel
theorem dL_updates_479 : decode cL_updates 479 = .ok (.iconst 0, 1) := by decide +kernel
theorem dL_updates_480 : decode cL_updates 480 = .ok (.istore 11, 2) := by decide +kernel
theorem dL_updates_482 : decode cL_updates 482 = .ok (.iload 11, 2) := by decide +kernel
theorem dL_updates_484 : decode cL_updates 484 = .ok (.ifCond .eq 28, 3) := by decide +kernel
theorem dL_updates_487 : decode cL_updates 487 = .ok (.aload 4, 2) := by decide +kernel
theorem dL_updates_489 : decode cL_updates 489 = .ok (.iconst 3, 1) := by decide +kernel
theorem dL_updates_490 : decode cL_updates 490 = .ok (.iaload, 1) := by decide +kernel
theorem dL_updates_491 : decode cL_updates 491 = .ok (.ifCond .lt 21, 3) := by decide +kernel
theorem dL_updates_494 : decode cL_updates 494 = .ok (.aload 4, 2) := by decide +kernel
theorem dL_updates_496 : decode cL_updates 496 = .ok (.iconst 5, 1) := by decide +kernel
theorem dL_updates_497 : decode cL_updates 497 = .ok (.iaload, 1) := by decide +kernel
theorem dL_updates_498 : decode cL_updates 498 = .ok (.aload 4, 2) := by decide +kernel
theorem dL_updates_500 : decode cL_updates 500 = .ok (.iconst 3, 1) := by decide +kernel
theorem dL_updates_501 : decode cL_updates 501 = .ok (.iaload, 1) := by decide +kernel
theorem dL_updates_502 : decode cL_updates 502 = .ok (.isub, 1) := by decide +kernel
theorem dL_updates_503 : decode cL_updates 503 = .ok (.iload 10, 2) := by decide +kernel
theorem dL_updates_505 : decode cL_updates 505 = .ok (.if_icmp .lt 7, 3) := by decide +kernel
theorem dL_updates_508 : decode cL_updates 508 = .ok (.iconst 1, 1) := by decide +kernel
theorem dL_updates_509 : decode cL_updates 509 = .ok (.goto 4, 3) := by decide +kernel
theorem dL_updates_512 : decode cL_updates 512 = .ok (.iconst 0, 1) := by decide +kernel
theorem dL_updates_513 : decode cL_updates 513 = .ok (.istore 12, 2) := by decide +kernel
theorem dL_updates_515 : decode cL_updates 515 = .ok (.iconst 0, 1) := by decide +kernel
theorem dL_updates_516 : decode cL_updates 516 = .ok (.istore 13, 2) := by decide +kernel
theorem dL_updates_518 : decode cL_updates 518 = .ok (.iload 13, 2) := by decide +kernel
theorem dL_updates_520 : decode cL_updates 520 = .ok (.iload 10, 2) := by decide +kernel
theorem dL_updates_522 : decode cL_updates 522 = .ok (.if_icmp .ge 47, 3) := by decide +kernel
theorem dL_updates_525 : decode cL_updates 525 = .ok (.iload 12, 2) := by decide +kernel
theorem dL_updates_527 : decode cL_updates 527 = .ok (.ifCond .eq 42, 3) := by decide +kernel
theorem dL_updates_530 : decode cL_updates 530 = .ok (.aload_n 1, 1) := by decide +kernel
theorem dL_updates_531 : decode cL_updates 531 = .ok (.iload 8, 2) := by decide +kernel
theorem dL_updates_533 : decode cL_updates 533 = .ok (.iconst 5, 1) := by decide +kernel
theorem dL_updates_534 : decode cL_updates 534 = .ok (.iadd, 1) := by decide +kernel
theorem dL_updates_535 : decode cL_updates 535 = .ok (.aload 4, 2) := by decide +kernel
theorem dL_updates_537 : decode cL_updates 537 = .ok (.iconst 3, 1) := by decide +kernel
theorem dL_updates_538 : decode cL_updates 538 = .ok (.iaload, 1) := by decide +kernel
theorem dL_updates_539 : decode cL_updates 539 = .ok (.iadd, 1) := by decide +kernel
theorem dL_updates_540 : decode cL_updates 540 = .ok (.iload 13, 2) := by decide +kernel
theorem dL_updates_542 : decode cL_updates 542 = .ok (.iadd, 1) := by decide +kernel
theorem dL_updates_543 : decode cL_updates 543 = .ok (.aload_n 2, 1) := by decide +kernel
theorem dL_updates_544 : decode cL_updates 544 = .ok (.bipush 32, 2) := by decide +kernel
theorem dL_updates_546 : decode cL_updates 546 = .ok (.aload 4, 2) := by decide +kernel
theorem dL_updates_548 : decode cL_updates 548 = .ok (.iconst 0, 1) := by decide +kernel
theorem dL_updates_549 : decode cL_updates 549 = .ok (.iaload, 1) := by decide +kernel
theorem dL_updates_550 : decode cL_updates 550 = .ok (.imul, 1) := by decide +kernel
theorem dL_updates_551 : decode cL_updates 551 = .ok (.iconst 5, 1) := by decide +kernel
theorem dL_updates_552 : decode cL_updates 552 = .ok (.iadd, 1) := by decide +kernel
theorem dL_updates_553 : decode cL_updates 553 = .ok (.iload 9, 2) := by decide +kernel
theorem dL_updates_555 : decode cL_updates 555 = .ok (.iadd, 1) := by decide +kernel
theorem dL_updates_556 : decode cL_updates 556 = .ok (.iload 13, 2) := by decide +kernel
theorem dL_updates_558 : decode cL_updates 558 = .ok (.iadd, 1) := by decide +kernel
theorem dL_updates_559 : decode cL_updates 559 = .ok (.iaload, 1) := by decide +kernel
theorem dL_updates_560 : decode cL_updates 560 = .ok (.invokestatic 33, 3) := by decide +kernel
theorem dL_updates_563 : decode cL_updates 563 = .ok (.iinc 13 1, 3) := by decide +kernel
theorem dL_updates_566 : decode cL_updates 566 = .ok (.goto (-48), 3) := by decide +kernel
theorem dL_updates_569 : decode cL_updates 569 = .ok (.aload 4, 2) := by decide +kernel
theorem dL_updates_571 : decode cL_updates 571 = .ok (.iconst 3, 1) := by decide +kernel
theorem dL_updates_572 : decode cL_updates 572 = .ok (.dup2, 1) := by decide +kernel
theorem dL_updates_573 : decode cL_updates 573 = .ok (.iaload, 1) := by decide +kernel
theorem dL_updates_574 : decode cL_updates 574 = .ok (.iload 12, 2) := by decide +kernel
theorem dL_updates_576 : decode cL_updates 576 = .ok (.ifCond .eq 8, 3) := by decide +kernel
theorem dL_updates_579 : decode cL_updates 579 = .ok (.iload 10, 2) := by decide +kernel
theorem dL_updates_581 : decode cL_updates 581 = .ok (.goto 4, 3) := by decide +kernel
theorem dL_updates_584 : decode cL_updates 584 = .ok (.iconst 0, 1) := by decide +kernel
theorem dL_updates_585 : decode cL_updates 585 = .ok (.iadd, 1) := by decide +kernel
theorem dL_updates_586 : decode cL_updates 586 = .ok (.iastore, 1) := by decide +kernel
theorem dL_updates_587 : decode cL_updates 587 = .ok (.aload_n 1, 1) := by decide +kernel
theorem dL_updates_588 : decode cL_updates 588 = .ok (.aload_n 2, 1) := by decide +kernel
theorem dL_updates_589 : decode cL_updates 589 = .ok (.aload_n 3, 1) := by decide +kernel
theorem dL_updates_590 : decode cL_updates 590 = .ok (.aload 4, 2) := by decide +kernel
theorem dL_updates_592 : decode cL_updates 592 = .ok (.invokestatic 58, 3) := by decide +kernel
theorem dL_updates_595 : decode cL_updates 595 = .ok (.istore 13, 2) := by decide +kernel
theorem dL_updates_597 : decode cL_updates 597 = .ok (.aload_n 0, 1) := by decide +kernel
theorem dL_updates_598 : decode cL_updates 598 = .ok (.iload 9, 2) := by decide +kernel
theorem dL_updates_600 : decode cL_updates 600 = .ok (.iload 10, 2) := by decide +kernel
theorem dL_updates_602 : decode cL_updates 602 = .ok (.invokestatic 104, 3) := by decide +kernel
theorem dL_updates_605 : decode cL_updates 605 = .ok (.iload 11, 2) := by decide +kernel
theorem dL_updates_607 : decode cL_updates 607 = .ok (.ifCond .ne 8, 3) := by decide +kernel
theorem dL_updates_610 : decode cL_updates 610 = .ok (.bipush (-3), 2) := by decide +kernel
theorem dL_updates_612 : decode cL_updates 612 = .ok (.goto 15, 3) := by decide +kernel
theorem dL_updates_615 : decode cL_updates 615 = .ok (.iload 12, 2) := by decide +kernel
theorem dL_updates_617 : decode cL_updates 617 = .ok (.ifCond .eq 8, 3) := by decide +kernel
theorem dL_updates_620 : decode cL_updates 620 = .ok (.iload 13, 2) := by decide +kernel
theorem dL_updates_622 : decode cL_updates 622 = .ok (.goto 5, 3) := by decide +kernel
theorem dL_updates_625 : decode cL_updates 625 = .ok (.bipush (-2), 2) := by decide +kernel
theorem dL_updates_627 : decode cL_updates 627 = .ok (.if_icmp .ne 7, 3) := by decide +kernel
theorem dL_updates_630 : decode cL_updates 630 = .ok (.iconst 1, 1) := by decide +kernel
theorem dL_updates_631 : decode cL_updates 631 = .ok (.goto 4, 3) := by decide +kernel
theorem dL_updates_634 : decode cL_updates 634 = .ok (.iconst 0, 1) := by decide +kernel
theorem dL_updates_635 : decode cL_updates 635 = .ok (.ireturn, 1) := by decide +kernel
theorem dL_updates_636 : decode cL_updates 636 = .ok (.iload 5, 2) := by decide +kernel
theorem dL_updates_638 : decode cL_updates 638 = .ok (.bipush 8, 2) := by decide +kernel
theorem dL_updates_640 : decode cL_updates 640 = .ok (.if_icmp .ne 145, 3) := by decide +kernel
theorem dL_updates_643 : decode cL_updates 643 = .ok (.aload 4, 2) := by decide +kernel
theorem dL_updates_645 : decode cL_updates 645 = .ok (.iconst 0, 1) := by decide +kernel
theorem dL_updates_646 : decode cL_updates 646 = .ok (.iaload, 1) := by decide +kernel
theorem dL_updates_647 : decode cL_updates 647 = .ok (.ifCond .lt 26, 3) := by decide +kernel
theorem dL_updates_650 : decode cL_updates 650 = .ok (.aload 4, 2) := by decide +kernel
theorem dL_updates_652 : decode cL_updates 652 = .ok (.iconst 0, 1) := by decide +kernel
theorem dL_updates_653 : decode cL_updates 653 = .ok (.iaload, 1) := by decide +kernel
theorem dL_updates_654 : decode cL_updates 654 = .ok (.aload_n 3, 1) := by decide +kernel
theorem dL_updates_655 : decode cL_updates 655 = .ok (.iconst 4, 1) := by decide +kernel
theorem dL_updates_656 : decode cL_updates 656 = .ok (.aload_n 3, 1) := by decide +kernel
theorem dL_updates_657 : decode cL_updates 657 = .ok (.invokestatic 29, 3) := by decide +kernel
theorem dL_updates_660 : decode cL_updates 660 = .ok (.imul, 1) := by decide +kernel
theorem dL_updates_661 : decode cL_updates 661 = .ok (.iconst 2, 1) := by decide +kernel
theorem dL_updates_662 : decode cL_updates 662 = .ok (.iadd, 1) := by decide +kernel
theorem dL_updates_663 : decode cL_updates 663 = .ok (.iaload, 1) := by decide +kernel
theorem dL_updates_664 : decode cL_updates 664 = .ok (.iconst 1, 1) := by decide +kernel
theorem dL_updates_665 : decode cL_updates 665 = .ok (.iand, 1) := by decide +kernel
theorem dL_updates_666 : decode cL_updates 666 = .ok (.if_icmp .eq 7, 3) := by decide +kernel
theorem dL_updates_669 : decode cL_updates 669 = .ok (.iconst 1, 1) := by decide +kernel
theorem dL_updates_670 : decode cL_updates 670 = .ok (.goto 4, 3) := by decide +kernel
theorem dL_updates_673 : decode cL_updates 673 = .ok (.iconst 0, 1) := by decide +kernel
theorem dL_updates_674 : decode cL_updates 674 = .ok (.istore 9, 2) := by decide +kernel
theorem dL_updates_676 : decode cL_updates 676 = .ok (.iload 9, 2) := by decide +kernel
theorem dL_updates_678 : decode cL_updates 678 = .ok (.ifCond .eq 55, 3) := by decide +kernel
theorem dL_updates_681 : decode cL_updates 681 = .ok (.aload_n 2, 1) := by decide +kernel
theorem dL_updates_682 : decode cL_updates 682 = .ok (.bipush 32, 2) := by decide +kernel
theorem dL_updates_684 : decode cL_updates 684 = .ok (.aload 4, 2) := by decide +kernel
theorem dL_updates_686 : decode cL_updates 686 = .ok (.iconst 0, 1) := by decide +kernel
theorem dL_updates_687 : decode cL_updates 687 = .ok (.iaload, 1) := by decide +kernel
theorem dL_updates_688 : decode cL_updates 688 = .ok (.imul, 1) := by decide +kernel
theorem dL_updates_689 : decode cL_updates 689 = .ok (.iconst 4, 1) := by decide +kernel
theorem dL_updates_690 : decode cL_updates 690 = .ok (.iadd, 1) := by decide +kernel
theorem dL_updates_691 : decode cL_updates 691 = .ok (.iaload, 1) := by decide +kernel
theorem dL_updates_692 : decode cL_updates 692 = .ok (.istore 10, 2) := by decide +kernel
theorem dL_updates_694 : decode cL_updates 694 = .ok (.aload_n 1, 1) := by decide +kernel
theorem dL_updates_695 : decode cL_updates 695 = .ok (.aload_n 3, 1) := by decide +kernel
theorem dL_updates_696 : decode cL_updates 696 = .ok (.aload 4, 2) := by decide +kernel
theorem dL_updates_698 : decode cL_updates 698 = .ok (.iconst 0, 1) := by decide +kernel
theorem dL_updates_699 : decode cL_updates 699 = .ok (.iaload, 1) := by decide +kernel
theorem dL_updates_700 : decode cL_updates 700 = .ok (.iload 10, 2) := by decide +kernel
theorem dL_updates_702 : decode cL_updates 702 = .ok (.aload_n 3, 1) := by decide +kernel
theorem dL_updates_703 : decode cL_updates 703 = .ok (.iconst 4, 1) := by decide +kernel
theorem dL_updates_704 : decode cL_updates 704 = .ok (.aload_n 3, 1) := by decide +kernel
theorem dL_updates_705 : decode cL_updates 705 = .ok (.invokestatic 29, 3) := by decide +kernel
theorem dL_updates_708 : decode cL_updates 708 = .ok (.imul, 1) := by decide +kernel
theorem dL_updates_709 : decode cL_updates 709 = .ok (.iconst 3, 1) := by decide +kernel
theorem dL_updates_710 : decode cL_updates 710 = .ok (.iadd, 1) := by decide +kernel
theorem dL_updates_711 : decode cL_updates 711 = .ok (.iaload, 1) := by decide +kernel
theorem dL_updates_712 : decode cL_updates 712 = .ok (.if_icmp .le 8, 3) := by decide +kernel
theorem dL_updates_715 : decode cL_updates 715 = .ok (.iload 10, 2) := by decide +kernel
theorem dL_updates_717 : decode cL_updates 717 = .ok (.goto 13, 3) := by decide +kernel
theorem dL_updates_720 : decode cL_updates 720 = .ok (.aload_n 3, 1) := by decide +kernel
theorem dL_updates_721 : decode cL_updates 721 = .ok (.iconst 4, 1) := by decide +kernel
theorem dL_updates_722 : decode cL_updates 722 = .ok (.aload_n 3, 1) := by decide +kernel
theorem dL_updates_723 : decode cL_updates 723 = .ok (.invokestatic 29, 3) := by decide +kernel
theorem dL_updates_726 : decode cL_updates 726 = .ok (.imul, 1) := by decide +kernel
theorem dL_updates_727 : decode cL_updates 727 = .ok (.iconst 3, 1) := by decide +kernel
theorem dL_updates_728 : decode cL_updates 728 = .ok (.iadd, 1) := by decide +kernel
theorem dL_updates_729 : decode cL_updates 729 = .ok (.iaload, 1) := by decide +kernel
theorem dL_updates_730 : decode cL_updates 730 = .ok (.invokestatic 54, 3) := by decide +kernel
theorem dL_updates_733 : decode cL_updates 733 = .ok (.aload_n 1, 1) := by decide +kernel
theorem dL_updates_734 : decode cL_updates 734 = .ok (.aload_n 2, 1) := by decide +kernel
