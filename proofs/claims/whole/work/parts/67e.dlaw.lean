theorem d_L_law_454 : decode b_L_law 454 = .ok (.iconst 0, 1) := by decide +kernel
theorem d_L_law_455 : decode b_L_law 455 = .ok (.ireturn, 1) := by decide +kernel
theorem d_L_law_456 : decode b_L_law 456 = .ok (.iload 5, 2) := by decide +kernel
theorem d_L_law_458 : decode b_L_law 458 = .ok (.ifCond .ne 15, 3) := by decide +kernel
theorem d_L_law_461 : decode b_L_law 461 = .ok (.aload_n 3, 1) := by decide +kernel
theorem d_L_law_462 : decode b_L_law 462 = .ok (.iconst 0, 1) := by decide +kernel
theorem d_L_law_463 : decode b_L_law 463 = .ok (.laload, 1) := by decide +kernel
theorem d_L_law_464 : decode b_L_law 464 = .ok (.iload 6, 2) := by decide +kernel
theorem d_L_law_466 : decode b_L_law 466 = .ok (.i2l, 1) := by decide +kernel
theorem d_L_law_467 : decode b_L_law 467 = .ok (.lcmp, 1) := by decide +kernel
theorem d_L_law_468 : decode b_L_law 468 = .ok (.ifCond .eq 5, 3) := by decide +kernel
theorem d_L_law_471 : decode b_L_law 471 = .ok (.iconst 0, 1) := by decide +kernel
theorem d_L_law_472 : decode b_L_law 472 = .ok (.ireturn, 1) := by decide +kernel
theorem d_L_law_473 : decode b_L_law 473 = .ok (.goto 184, 3) := by decide +kernel
theorem d_L_law_476 : decode b_L_law 476 = .ok (.aload_n 1, 1) := by decide +kernel
theorem d_L_law_477 : decode b_L_law 477 = .ok (.aload_n 0, 1) := by decide +kernel
theorem d_L_law_478 : decode b_L_law 478 = .ok (.iload 4, 2) := by decide +kernel
theorem d_L_law_480 : decode b_L_law 480 = .ok (.iconst 1, 1) := by decide +kernel
theorem d_L_law_481 : decode b_L_law 481 = .ok (.iadd, 1) := by decide +kernel
theorem d_L_law_482 : decode b_L_law 482 = .ok (.iaload, 1) := by decide +kernel
theorem d_L_law_483 : decode b_L_law 483 = .ok (.aload_n 3, 1) := by decide +kernel
theorem d_L_law_484 : decode b_L_law 484 = .ok (.invokestatic 83, 3) := by decide +kernel
theorem d_L_law_487 : decode b_L_law 487 = .ok (.istore 5, 2) := by decide +kernel
theorem d_L_law_489 : decode b_L_law 489 = .ok (.aload_n 2, 1) := by decide +kernel
theorem d_L_law_490 : decode b_L_law 490 = .ok (.aload_n 0, 1) := by decide +kernel
theorem d_L_law_491 : decode b_L_law 491 = .ok (.iload 4, 2) := by decide +kernel
theorem d_L_law_493 : decode b_L_law 493 = .ok (.iconst 1, 1) := by decide +kernel
theorem d_L_law_494 : decode b_L_law 494 = .ok (.iadd, 1) := by decide +kernel
theorem d_L_law_495 : decode b_L_law 495 = .ok (.iaload, 1) := by decide +kernel
theorem d_L_law_496 : decode b_L_law 496 = .ok (.invokevirtual 85, 3) := by decide +kernel
theorem d_L_law_499 : decode b_L_law 499 = .ok (.istore 6, 2) := by decide +kernel
theorem d_L_law_501 : decode b_L_law 501 = .ok (.aload_n 2, 1) := by decide +kernel
theorem d_L_law_502 : decode b_L_law 502 = .ok (.invokevirtual 58, 3) := by decide +kernel
theorem d_L_law_505 : decode b_L_law 505 = .ok (.iload 5, 2) := by decide +kernel
theorem d_L_law_507 : decode b_L_law 507 = .ok (.if_icmp .eq 5, 3) := by decide +kernel
theorem d_L_law_510 : decode b_L_law 510 = .ok (.iconst 0, 1) := by decide +kernel
theorem d_L_law_511 : decode b_L_law 511 = .ok (.ireturn, 1) := by decide +kernel
theorem d_L_law_512 : decode b_L_law 512 = .ok (.iload 5, 2) := by decide +kernel
theorem d_L_law_514 : decode b_L_law 514 = .ok (.ifCond .ne 15, 3) := by decide +kernel
theorem d_L_law_517 : decode b_L_law 517 = .ok (.aload_n 3, 1) := by decide +kernel
theorem d_L_law_518 : decode b_L_law 518 = .ok (.iconst 0, 1) := by decide +kernel
theorem d_L_law_519 : decode b_L_law 519 = .ok (.laload, 1) := by decide +kernel
theorem d_L_law_520 : decode b_L_law 520 = .ok (.iload 6, 2) := by decide +kernel
theorem d_L_law_522 : decode b_L_law 522 = .ok (.i2l, 1) := by decide +kernel
theorem d_L_law_523 : decode b_L_law 523 = .ok (.lcmp, 1) := by decide +kernel
theorem d_L_law_524 : decode b_L_law 524 = .ok (.ifCond .eq 5, 3) := by decide +kernel
theorem d_L_law_527 : decode b_L_law 527 = .ok (.iconst 0, 1) := by decide +kernel
theorem d_L_law_528 : decode b_L_law 528 = .ok (.ireturn, 1) := by decide +kernel
theorem d_L_law_529 : decode b_L_law 529 = .ok (.goto 128, 3) := by decide +kernel
theorem d_L_law_532 : decode b_L_law 532 = .ok (.aload_n 1, 1) := by decide +kernel
theorem d_L_law_533 : decode b_L_law 533 = .ok (.aload_n 0, 1) := by decide +kernel
theorem d_L_law_534 : decode b_L_law 534 = .ok (.iload 4, 2) := by decide +kernel
theorem d_L_law_536 : decode b_L_law 536 = .ok (.iconst 1, 1) := by decide +kernel
theorem d_L_law_537 : decode b_L_law 537 = .ok (.iadd, 1) := by decide +kernel
theorem d_L_law_538 : decode b_L_law 538 = .ok (.iaload, 1) := by decide +kernel
theorem d_L_law_539 : decode b_L_law 539 = .ok (.aload_n 0, 1) := by decide +kernel
theorem d_L_law_540 : decode b_L_law 540 = .ok (.iload 4, 2) := by decide +kernel
theorem d_L_law_542 : decode b_L_law 542 = .ok (.iconst 2, 1) := by decide +kernel
theorem d_L_law_543 : decode b_L_law 543 = .ok (.iadd, 1) := by decide +kernel
theorem d_L_law_544 : decode b_L_law 544 = .ok (.iaload, 1) := by decide +kernel
theorem d_L_law_545 : decode b_L_law 545 = .ok (.invokestatic 86, 3) := by decide +kernel
theorem d_L_law_548 : decode b_L_law 548 = .ok (.istore 5, 2) := by decide +kernel
theorem d_L_law_550 : decode b_L_law 550 = .ok (.aload_n 2, 1) := by decide +kernel
theorem d_L_law_551 : decode b_L_law 551 = .ok (.aload_n 0, 1) := by decide +kernel
theorem d_L_law_552 : decode b_L_law 552 = .ok (.iload 4, 2) := by decide +kernel
theorem d_L_law_554 : decode b_L_law 554 = .ok (.iconst 1, 1) := by decide +kernel
theorem d_L_law_555 : decode b_L_law 555 = .ok (.iadd, 1) := by decide +kernel
theorem d_L_law_556 : decode b_L_law 556 = .ok (.iaload, 1) := by decide +kernel
theorem d_L_law_557 : decode b_L_law 557 = .ok (.aload_n 0, 1) := by decide +kernel
theorem d_L_law_558 : decode b_L_law 558 = .ok (.iload 4, 2) := by decide +kernel
theorem d_L_law_560 : decode b_L_law 560 = .ok (.iconst 2, 1) := by decide +kernel
theorem d_L_law_561 : decode b_L_law 561 = .ok (.iadd, 1) := by decide +kernel
theorem d_L_law_562 : decode b_L_law 562 = .ok (.iaload, 1) := by decide +kernel
theorem d_L_law_563 : decode b_L_law 563 = .ok (.invokevirtual 88, 3) := by decide +kernel
theorem d_L_law_566 : decode b_L_law 566 = .ok (.aload_n 2, 1) := by decide +kernel
theorem d_L_law_567 : decode b_L_law 567 = .ok (.invokevirtual 58, 3) := by decide +kernel
theorem d_L_law_570 : decode b_L_law 570 = .ok (.iload 5, 2) := by decide +kernel
theorem d_L_law_572 : decode b_L_law 572 = .ok (.if_icmp .eq 5, 3) := by decide +kernel
theorem d_L_law_575 : decode b_L_law 575 = .ok (.iconst 0, 1) := by decide +kernel
theorem d_L_law_576 : decode b_L_law 576 = .ok (.ireturn, 1) := by decide +kernel
theorem d_L_law_577 : decode b_L_law 577 = .ok (.goto 80, 3) := by decide +kernel
theorem d_L_law_580 : decode b_L_law 580 = .ok (.aload_n 1, 1) := by decide +kernel
theorem d_L_law_581 : decode b_L_law 581 = .ok (.aload_n 0, 1) := by decide +kernel
theorem d_L_law_582 : decode b_L_law 582 = .ok (.iload 4, 2) := by decide +kernel
theorem d_L_law_584 : decode b_L_law 584 = .ok (.iconst 1, 1) := by decide +kernel
theorem d_L_law_585 : decode b_L_law 585 = .ok (.iadd, 1) := by decide +kernel
theorem d_L_law_586 : decode b_L_law 586 = .ok (.iaload, 1) := by decide +kernel
theorem d_L_law_587 : decode b_L_law 587 = .ok (.aload_n 3, 1) := by decide +kernel
theorem d_L_law_588 : decode b_L_law 588 = .ok (.invokestatic 89, 3) := by decide +kernel
theorem d_L_law_591 : decode b_L_law 591 = .ok (.istore 5, 2) := by decide +kernel
theorem d_L_law_593 : decode b_L_law 593 = .ok (.aload_n 2, 1) := by decide +kernel
theorem d_L_law_594 : decode b_L_law 594 = .ok (.aload_n 0, 1) := by decide +kernel
theorem d_L_law_595 : decode b_L_law 595 = .ok (.iload 4, 2) := by decide +kernel
theorem d_L_law_597 : decode b_L_law 597 = .ok (.iconst 1, 1) := by decide +kernel
theorem d_L_law_598 : decode b_L_law 598 = .ok (.iadd, 1) := by decide +kernel
theorem d_L_law_599 : decode b_L_law 599 = .ok (.iaload, 1) := by decide +kernel
theorem d_L_law_600 : decode b_L_law 600 = .ok (.invokevirtual 91, 3) := by decide +kernel
theorem d_L_law_603 : decode b_L_law 603 = .ok (.istore 6, 2) := by decide +kernel
theorem d_L_law_605 : decode b_L_law 605 = .ok (.aload_n 2, 1) := by decide +kernel
theorem d_L_law_606 : decode b_L_law 606 = .ok (.invokevirtual 58, 3) := by decide +kernel
theorem d_L_law_609 : decode b_L_law 609 = .ok (.iload 5, 2) := by decide +kernel
theorem d_L_law_611 : decode b_L_law 611 = .ok (.if_icmp .eq 5, 3) := by decide +kernel
theorem d_L_law_614 : decode b_L_law 614 = .ok (.iconst 0, 1) := by decide +kernel
theorem d_L_law_615 : decode b_L_law 615 = .ok (.ireturn, 1) := by decide +kernel
theorem d_L_law_616 : decode b_L_law 616 = .ok (.iload 5, 2) := by decide +kernel
theorem d_L_law_618 : decode b_L_law 618 = .ok (.ifCond .ne 22, 3) := by decide +kernel
theorem d_L_law_621 : decode b_L_law 621 = .ok (.aload_n 3, 1) := by decide +kernel
theorem d_L_law_622 : decode b_L_law 622 = .ok (.iconst 0, 1) := by decide +kernel
theorem d_L_law_623 : decode b_L_law 623 = .ok (.laload, 1) := by decide +kernel
theorem d_L_law_624 : decode b_L_law 624 = .ok (.iload 6, 2) := by decide +kernel
theorem d_L_law_626 : decode b_L_law 626 = .ok (.ifCond .eq 7, 3) := by decide +kernel
theorem d_L_law_629 : decode b_L_law 629 = .ok (.lconst 1, 1) := by decide +kernel
theorem d_L_law_630 : decode b_L_law 630 = .ok (.goto 4, 3) := by decide +kernel
theorem d_L_law_633 : decode b_L_law 633 = .ok (.lconst 0, 1) := by decide +kernel
theorem d_L_law_634 : decode b_L_law 634 = .ok (.lcmp, 1) := by decide +kernel
theorem d_L_law_635 : decode b_L_law 635 = .ok (.ifCond .eq 5, 3) := by decide +kernel
theorem d_L_law_638 : decode b_L_law 638 = .ok (.iconst 0, 1) := by decide +kernel
theorem d_L_law_639 : decode b_L_law 639 = .ok (.ireturn, 1) := by decide +kernel
theorem d_L_law_640 : decode b_L_law 640 = .ok (.goto 17, 3) := by decide +kernel
theorem d_L_law_643 : decode b_L_law 643 = .ok (.aload_n 1, 1) := by decide +kernel
theorem d_L_law_644 : decode b_L_law 644 = .ok (.invokevirtual 92, 3) := by decide +kernel
theorem d_L_law_647 : decode b_L_law 647 = .ok (.aload_n 2, 1) := by decide +kernel
theorem d_L_law_648 : decode b_L_law 648 = .ok (.invokevirtual 96, 3) := by decide +kernel
theorem d_L_law_651 : decode b_L_law 651 = .ok (.lcmp, 1) := by decide +kernel
theorem d_L_law_652 : decode b_L_law 652 = .ok (.ifCond .eq 5, 3) := by decide +kernel
theorem d_L_law_655 : decode b_L_law 655 = .ok (.iconst 0, 1) := by decide +kernel
theorem d_L_law_656 : decode b_L_law 656 = .ok (.ireturn, 1) := by decide +kernel
theorem d_L_law_657 : decode b_L_law 657 = .ok (.iinc 4 5, 3) := by decide +kernel
theorem d_L_law_660 : decode b_L_law 660 = .ok (.goto (-637), 3) := by decide +kernel
theorem d_L_law_663 : decode b_L_law 663 = .ok (.iconst 1, 1) := by decide +kernel
theorem d_L_law_664 : decode b_L_law 664 = .ok (.ireturn, 1) := by decide +kernel
