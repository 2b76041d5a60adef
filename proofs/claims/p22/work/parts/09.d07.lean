theorem dL_refuses_421 : decode cL_refuses 421 = .ok (.iconst 0, 1) := by decide +kernel
theorem dL_refuses_422 : decode cL_refuses 422 = .ok (.invokestatic 80, 3) := by decide +kernel
theorem dL_refuses_425 : decode cL_refuses 425 = .ok (.bipush (-72), 2) := by decide +kernel
theorem dL_refuses_427 : decode cL_refuses 427 = .ok (.if_icmp .ne 110, 3) := by decide +kernel
theorem dL_refuses_430 : decode cL_refuses 430 = .ok (.aload_n 0, 1) := by decide +kernel
theorem dL_refuses_431 : decode cL_refuses 431 = .ok (.iconst 5, 1) := by decide +kernel
theorem dL_refuses_432 : decode cL_refuses 432 = .ok (.iload 11, 2) := by decide +kernel
theorem dL_refuses_434 : decode cL_refuses 434 = .ok (.iconst (-1), 1) := by decide +kernel
theorem dL_refuses_435 : decode cL_refuses 435 = .ok (.iconst 0, 1) := by decide +kernel
theorem dL_refuses_436 : decode cL_refuses 436 = .ok (.iconst 0, 1) := by decide +kernel
theorem dL_refuses_437 : decode cL_refuses 437 = .ok (.invokestatic 80, 3) := by decide +kernel
theorem dL_refuses_440 : decode cL_refuses 440 = .ok (.bipush (-71), 2) := by decide +kernel
theorem dL_refuses_442 : decode cL_refuses 442 = .ok (.if_icmp .ne 95, 3) := by decide +kernel
theorem dL_refuses_445 : decode cL_refuses 445 = .ok (.aload_n 0, 1) := by decide +kernel
theorem dL_refuses_446 : decode cL_refuses 446 = .ok (.iconst 5, 1) := by decide +kernel
theorem dL_refuses_447 : decode cL_refuses 447 = .ok (.iconst 0, 1) := by decide +kernel
theorem dL_refuses_448 : decode cL_refuses 448 = .ok (.iload 7, 2) := by decide +kernel
theorem dL_refuses_450 : decode cL_refuses 450 = .ok (.iconst 1, 1) := by decide +kernel
theorem dL_refuses_451 : decode cL_refuses 451 = .ok (.if_icmp .ne 9, 3) := by decide +kernel
theorem dL_refuses_454 : decode cL_refuses 454 = .ok (.sipush 363, 3) := by decide +kernel
theorem dL_refuses_457 : decode cL_refuses 457 = .ok (.goto 5, 3) := by decide +kernel
theorem dL_refuses_460 : decode cL_refuses 460 = .ok (.iload 8, 2) := by decide +kernel
theorem dL_refuses_462 : decode cL_refuses 462 = .ok (.iconst 5, 1) := by decide +kernel
theorem dL_refuses_463 : decode cL_refuses 463 = .ok (.iconst 5, 1) := by decide +kernel
theorem dL_refuses_464 : decode cL_refuses 464 = .ok (.invokestatic 80, 3) := by decide +kernel
theorem dL_refuses_467 : decode cL_refuses 467 = .ok (.bipush (-72), 2) := by decide +kernel
theorem dL_refuses_469 : decode cL_refuses 469 = .ok (.if_icmp .ne 68, 3) := by decide +kernel
theorem dL_refuses_472 : decode cL_refuses 472 = .ok (.aload_n 0, 1) := by decide +kernel
theorem dL_refuses_473 : decode cL_refuses 473 = .ok (.iconst 5, 1) := by decide +kernel
theorem dL_refuses_474 : decode cL_refuses 474 = .ok (.iconst 0, 1) := by decide +kernel
theorem dL_refuses_475 : decode cL_refuses 475 = .ok (.iconst 5, 1) := by decide +kernel
theorem dL_refuses_476 : decode cL_refuses 476 = .ok (.iload 7, 2) := by decide +kernel
theorem dL_refuses_478 : decode cL_refuses 478 = .ok (.iconst 1, 1) := by decide +kernel
theorem dL_refuses_479 : decode cL_refuses 479 = .ok (.if_icmp .ne 8, 3) := by decide +kernel
theorem dL_refuses_482 : decode cL_refuses 482 = .ok (.bipush 96, 2) := by decide +kernel
theorem dL_refuses_484 : decode cL_refuses 484 = .ok (.goto 5, 3) := by decide +kernel
theorem dL_refuses_487 : decode cL_refuses 487 = .ok (.iload 8, 2) := by decide +kernel
theorem dL_refuses_489 : decode cL_refuses 489 = .ok (.iconst 5, 1) := by decide +kernel
theorem dL_refuses_490 : decode cL_refuses 490 = .ok (.invokestatic 80, 3) := by decide +kernel
theorem dL_refuses_493 : decode cL_refuses 493 = .ok (.bipush (-72), 2) := by decide +kernel
theorem dL_refuses_495 : decode cL_refuses 495 = .ok (.if_icmp .ne 42, 3) := by decide +kernel
theorem dL_refuses_498 : decode cL_refuses 498 = .ok (.aload_n 0, 1) := by decide +kernel
theorem dL_refuses_499 : decode cL_refuses 499 = .ok (.iconst 5, 1) := by decide +kernel
theorem dL_refuses_500 : decode cL_refuses 500 = .ok (.iconst 0, 1) := by decide +kernel
theorem dL_refuses_501 : decode cL_refuses 501 = .ok (.iconst 5, 1) := by decide +kernel
theorem dL_refuses_502 : decode cL_refuses 502 = .ok (.iconst 5, 1) := by decide +kernel
theorem dL_refuses_503 : decode cL_refuses 503 = .ok (.iload 7, 2) := by decide +kernel
theorem dL_refuses_505 : decode cL_refuses 505 = .ok (.ifCond .ne 7, 3) := by decide +kernel
theorem dL_refuses_508 : decode cL_refuses 508 = .ok (.iconst 0, 1) := by decide +kernel
theorem dL_refuses_509 : decode cL_refuses 509 = .ok (.goto 16, 3) := by decide +kernel
theorem dL_refuses_512 : decode cL_refuses 512 = .ok (.iload 7, 2) := by decide +kernel
theorem dL_refuses_514 : decode cL_refuses 514 = .ok (.iconst 1, 1) := by decide +kernel
theorem dL_refuses_515 : decode cL_refuses 515 = .ok (.if_icmp .ne 8, 3) := by decide +kernel
theorem dL_refuses_518 : decode cL_refuses 518 = .ok (.bipush 65, 2) := by decide +kernel
theorem dL_refuses_520 : decode cL_refuses 520 = .ok (.goto 5, 3) := by decide +kernel
theorem dL_refuses_523 : decode cL_refuses 523 = .ok (.iload 8, 2) := by decide +kernel
theorem dL_refuses_525 : decode cL_refuses 525 = .ok (.invokestatic 80, 3) := by decide +kernel
theorem dL_refuses_528 : decode cL_refuses 528 = .ok (.bipush (-72), 2) := by decide +kernel
theorem dL_refuses_530 : decode cL_refuses 530 = .ok (.if_icmp .ne 7, 3) := by decide +kernel
theorem dL_refuses_533 : decode cL_refuses 533 = .ok (.iconst 1, 1) := by decide +kernel
theorem dL_refuses_534 : decode cL_refuses 534 = .ok (.goto 4, 3) := by decide +kernel
theorem dL_refuses_537 : decode cL_refuses 537 = .ok (.iconst 0, 1) := by decide +kernel
theorem dL_refuses_538 : decode cL_refuses 538 = .ok (.istore 14, 2) := by decide +kernel
theorem dL_refuses_540 : decode cL_refuses 540 = .ok (.bipush 6, 2) := by decide +kernel
theorem dL_refuses_542 : decode cL_refuses 542 = .ok (.istore 15, 2) := by decide +kernel
theorem dL_refuses_544 : decode cL_refuses 544 = .ok (.iload 15, 2) := by decide +kernel
theorem dL_refuses_546 : decode cL_refuses 546 = .ok (.bipush 13, 2) := by decide +kernel
theorem dL_refuses_548 : decode cL_refuses 548 = .ok (.if_icmp .ge 37, 3) := by decide +kernel
theorem dL_refuses_551 : decode cL_refuses 551 = .ok (.iload 14, 2) := by decide +kernel
theorem dL_refuses_553 : decode cL_refuses 553 = .ok (.ifCond .eq 23, 3) := by decide +kernel
theorem dL_refuses_556 : decode cL_refuses 556 = .ok (.aload_n 0, 1) := by decide +kernel
theorem dL_refuses_557 : decode cL_refuses 557 = .ok (.iload 15, 2) := by decide +kernel
theorem dL_refuses_559 : decode cL_refuses 559 = .ok (.iload 12, 2) := by decide +kernel
theorem dL_refuses_561 : decode cL_refuses 561 = .ok (.iconst (-1), 1) := by decide +kernel
theorem dL_refuses_562 : decode cL_refuses 562 = .ok (.iconst 0, 1) := by decide +kernel
theorem dL_refuses_563 : decode cL_refuses 563 = .ok (.iconst 0, 1) := by decide +kernel
theorem dL_refuses_564 : decode cL_refuses 564 = .ok (.invokestatic 80, 3) := by decide +kernel
theorem dL_refuses_567 : decode cL_refuses 567 = .ok (.bipush (-71), 2) := by decide +kernel
theorem dL_refuses_569 : decode cL_refuses 569 = .ok (.if_icmp .ne 7, 3) := by decide +kernel
theorem dL_refuses_572 : decode cL_refuses 572 = .ok (.iconst 1, 1) := by decide +kernel
theorem dL_refuses_573 : decode cL_refuses 573 = .ok (.goto 4, 3) := by decide +kernel
theorem dL_refuses_576 : decode cL_refuses 576 = .ok (.iconst 0, 1) := by decide +kernel
theorem dL_refuses_577 : decode cL_refuses 577 = .ok (.istore 14, 2) := by decide +kernel
theorem dL_refuses_579 : decode cL_refuses 579 = .ok (.iinc 15 1, 3) := by decide +kernel
theorem dL_refuses_582 : decode cL_refuses 582 = .ok (.goto (-38), 3) := by decide +kernel
theorem dL_refuses_585 : decode cL_refuses 585 = .ok (.iload 14, 2) := by decide +kernel
theorem dL_refuses_587 : decode cL_refuses 587 = .ok (.ifCond .eq 253, 3) := by decide +kernel
theorem dL_refuses_590 : decode cL_refuses 590 = .ok (.iload_n 3, 1) := by decide +kernel
theorem dL_refuses_591 : decode cL_refuses 591 = .ok (.ifCond .eq 84, 3) := by decide +kernel
theorem dL_refuses_594 : decode cL_refuses 594 = .ok (.aload_n 0, 1) := by decide +kernel
theorem dL_refuses_595 : decode cL_refuses 595 = .ok (.bipush 7, 2) := by decide +kernel
theorem dL_refuses_597 : decode cL_refuses 597 = .ok (.iconst 0, 1) := by decide +kernel
theorem dL_refuses_598 : decode cL_refuses 598 = .ok (.iload 7, 2) := by decide +kernel
theorem dL_refuses_600 : decode cL_refuses 600 = .ok (.iconst 1, 1) := by decide +kernel
theorem dL_refuses_601 : decode cL_refuses 601 = .ok (.if_icmp .ne 8, 3) := by decide +kernel
theorem dL_refuses_604 : decode cL_refuses 604 = .ok (.bipush 6, 2) := by decide +kernel
theorem dL_refuses_606 : decode cL_refuses 606 = .ok (.goto 5, 3) := by decide +kernel
theorem dL_refuses_609 : decode cL_refuses 609 = .ok (.iload 8, 2) := by decide +kernel
theorem dL_refuses_611 : decode cL_refuses 611 = .ok (.iconst 0, 1) := by decide +kernel
theorem dL_refuses_612 : decode cL_refuses 612 = .ok (.iconst 0, 1) := by decide +kernel
theorem dL_refuses_613 : decode cL_refuses 613 = .ok (.invokestatic 80, 3) := by decide +kernel
theorem dL_refuses_616 : decode cL_refuses 616 = .ok (.bipush (-72), 2) := by decide +kernel
theorem dL_refuses_618 : decode cL_refuses 618 = .ok (.if_icmp .ne 222, 3) := by decide +kernel
theorem dL_refuses_621 : decode cL_refuses 621 = .ok (.aload_n 0, 1) := by decide +kernel
theorem dL_refuses_622 : decode cL_refuses 622 = .ok (.bipush 9, 2) := by decide +kernel
theorem dL_refuses_624 : decode cL_refuses 624 = .ok (.iconst 0, 1) := by decide +kernel
theorem dL_refuses_625 : decode cL_refuses 625 = .ok (.iload 7, 2) := by decide +kernel
theorem dL_refuses_627 : decode cL_refuses 627 = .ok (.iconst 1, 1) := by decide +kernel
theorem dL_refuses_628 : decode cL_refuses 628 = .ok (.if_icmp .ne 8, 3) := by decide +kernel
theorem dL_refuses_631 : decode cL_refuses 631 = .ok (.bipush 64, 2) := by decide +kernel
