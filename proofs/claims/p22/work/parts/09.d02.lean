theorem dL_pays_416 : decode cL_pays 416 = .ok (.invokevirtual 42, 3) := by decide +kernel
theorem dL_pays_419 : decode cL_pays 419 = .ok (.ifCond .ne 188, 3) := by decide +kernel
theorem dL_pays_422 : decode cL_pays 422 = .ok (.aload_n 0, 1) := by decide +kernel
theorem dL_pays_423 : decode cL_pays 423 = .ok (.iconst 1, 1) := by decide +kernel
theorem dL_pays_424 : decode cL_pays 424 = .ok (.invokevirtual 57, 3) := by decide +kernel
theorem dL_pays_427 : decode cL_pays 427 = .ok (.sipush 14250, 3) := by decide +kernel
theorem dL_pays_430 : decode cL_pays 430 = .ok (.if_icmp .ne 177, 3) := by decide +kernel
theorem dL_pays_433 : decode cL_pays 433 = .ok (.aload_n 0, 1) := by decide +kernel
theorem dL_pays_434 : decode cL_pays 434 = .ok (.iconst 1, 1) := by decide +kernel
theorem dL_pays_435 : decode cL_pays 435 = .ok (.iconst 5, 1) := by decide +kernel
theorem dL_pays_436 : decode cL_pays 436 = .ok (.invokevirtual 42, 3) := by decide +kernel
theorem dL_pays_439 : decode cL_pays 439 = .ok (.iconst 1, 1) := by decide +kernel
theorem dL_pays_440 : decode cL_pays 440 = .ok (.if_icmp .ne 167, 3) := by decide +kernel
theorem dL_pays_443 : decode cL_pays 443 = .ok (.aload_n 0, 1) := by decide +kernel
theorem dL_pays_444 : decode cL_pays 444 = .ok (.iconst 1, 1) := by decide +kernel
theorem dL_pays_445 : decode cL_pays 445 = .ok (.invokevirtual 54, 3) := by decide +kernel
theorem dL_pays_448 : decode cL_pays 448 = .ok (.ifCond .ne 159, 3) := by decide +kernel
theorem dL_pays_451 : decode cL_pays 451 = .ok (.aload_n 0, 1) := by decide +kernel
theorem dL_pays_452 : decode cL_pays 452 = .ok (.iconst 0, 1) := by decide +kernel
theorem dL_pays_453 : decode cL_pays 453 = .ok (.iconst 0, 1) := by decide +kernel
theorem dL_pays_454 : decode cL_pays 454 = .ok (.invokevirtual 21, 3) := by decide +kernel
theorem dL_pays_457 : decode cL_pays 457 = .ok (.ifCond .eq 150, 3) := by decide +kernel
theorem dL_pays_460 : decode cL_pays 460 = .ok (.aload_n 0, 1) := by decide +kernel
theorem dL_pays_461 : decode cL_pays 461 = .ok (.iconst 0, 1) := by decide +kernel
theorem dL_pays_462 : decode cL_pays 462 = .ok (.iconst 0, 1) := by decide +kernel
theorem dL_pays_463 : decode cL_pays 463 = .ok (.invokevirtual 21, 3) := by decide +kernel
theorem dL_pays_466 : decode cL_pays 466 = .ok (.ifCond .ne 141, 3) := by decide +kernel
theorem dL_pays_469 : decode cL_pays 469 = .ok (.aload_n 0, 1) := by decide +kernel
theorem dL_pays_470 : decode cL_pays 470 = .ok (.iconst 1, 1) := by decide +kernel
theorem dL_pays_471 : decode cL_pays 471 = .ok (.bipush 19, 2) := by decide +kernel
theorem dL_pays_473 : decode cL_pays 473 = .ok (.sipush 130, 3) := by decide +kernel
theorem dL_pays_476 : decode cL_pays 476 = .ok (.iconst 3, 1) := by decide +kernel
theorem dL_pays_477 : decode cL_pays 477 = .ok (.invokestatic 94, 3) := by decide +kernel
theorem dL_pays_480 : decode cL_pays 480 = .ok (.ifCond .eq 127, 3) := by decide +kernel
theorem dL_pays_483 : decode cL_pays 483 = .ok (.aload_n 0, 1) := by decide +kernel
theorem dL_pays_484 : decode cL_pays 484 = .ok (.iconst 1, 1) := by decide +kernel
theorem dL_pays_485 : decode cL_pays 485 = .ok (.invokevirtual 57, 3) := by decide +kernel
theorem dL_pays_488 : decode cL_pays 488 = .ok (.sipush 12850, 3) := by decide +kernel
theorem dL_pays_491 : decode cL_pays 491 = .ok (.if_icmp .ne 116, 3) := by decide +kernel
theorem dL_pays_494 : decode cL_pays 494 = .ok (.aload_n 0, 1) := by decide +kernel
theorem dL_pays_495 : decode cL_pays 495 = .ok (.iconst 0, 1) := by decide +kernel
theorem dL_pays_496 : decode cL_pays 496 = .ok (.invokevirtual 64, 3) := by decide +kernel
theorem dL_pays_499 : decode cL_pays 499 = .ok (.ifCond .ne 108, 3) := by decide +kernel
theorem dL_pays_502 : decode cL_pays 502 = .ok (.aload_n 0, 1) := by decide +kernel
theorem dL_pays_503 : decode cL_pays 503 = .ok (.iconst 3, 1) := by decide +kernel
theorem dL_pays_504 : decode cL_pays 504 = .ok (.invokevirtual 64, 3) := by decide +kernel
theorem dL_pays_507 : decode cL_pays 507 = .ok (.sipush 9100, 3) := by decide +kernel
theorem dL_pays_510 : decode cL_pays 510 = .ok (.if_icmp .ne 97, 3) := by decide +kernel
theorem dL_pays_513 : decode cL_pays 513 = .ok (.aload_n 0, 1) := by decide +kernel
theorem dL_pays_514 : decode cL_pays 514 = .ok (.iconst 0, 1) := by decide +kernel
theorem dL_pays_515 : decode cL_pays 515 = .ok (.iconst 1, 1) := by decide +kernel
theorem dL_pays_516 : decode cL_pays 516 = .ok (.invokevirtual 21, 3) := by decide +kernel
theorem dL_pays_519 : decode cL_pays 519 = .ok (.ifCond .ne 88, 3) := by decide +kernel
theorem dL_pays_522 : decode cL_pays 522 = .ok (.aload_n 0, 1) := by decide +kernel
theorem dL_pays_523 : decode cL_pays 523 = .ok (.iconst 0, 1) := by decide +kernel
theorem dL_pays_524 : decode cL_pays 524 = .ok (.iconst 0, 1) := by decide +kernel
theorem dL_pays_525 : decode cL_pays 525 = .ok (.iconst 3, 1) := by decide +kernel
theorem dL_pays_526 : decode cL_pays 526 = .ok (.invokevirtual 60, 3) := by decide +kernel
theorem dL_pays_529 : decode cL_pays 529 = .ok (.sipush 7000, 3) := by decide +kernel
theorem dL_pays_532 : decode cL_pays 532 = .ok (.if_icmp .ne 75, 3) := by decide +kernel
theorem dL_pays_535 : decode cL_pays 535 = .ok (.aload_n 0, 1) := by decide +kernel
theorem dL_pays_536 : decode cL_pays 536 = .ok (.iconst 0, 1) := by decide +kernel
theorem dL_pays_537 : decode cL_pays 537 = .ok (.iconst 4, 1) := by decide +kernel
theorem dL_pays_538 : decode cL_pays 538 = .ok (.iconst 4, 1) := by decide +kernel
theorem dL_pays_539 : decode cL_pays 539 = .ok (.invokevirtual 60, 3) := by decide +kernel
theorem dL_pays_542 : decode cL_pays 542 = .ok (.sipush 14250, 3) := by decide +kernel
theorem dL_pays_545 : decode cL_pays 545 = .ok (.if_icmp .ne 62, 3) := by decide +kernel
theorem dL_pays_548 : decode cL_pays 548 = .ok (.aload_n 0, 1) := by decide +kernel
theorem dL_pays_549 : decode cL_pays 549 = .ok (.iconst 0, 1) := by decide +kernel
theorem dL_pays_550 : decode cL_pays 550 = .ok (.iconst 5, 1) := by decide +kernel
theorem dL_pays_551 : decode cL_pays 551 = .ok (.sipush 363, 3) := by decide +kernel
theorem dL_pays_554 : decode cL_pays 554 = .ok (.invokevirtual 60, 3) := by decide +kernel
theorem dL_pays_557 : decode cL_pays 557 = .ok (.ifCond .ne 50, 3) := by decide +kernel
theorem dL_pays_560 : decode cL_pays 560 = .ok (.aload_n 0, 1) := by decide +kernel
theorem dL_pays_561 : decode cL_pays 561 = .ok (.iconst 0, 1) := by decide +kernel
theorem dL_pays_562 : decode cL_pays 562 = .ok (.iconst 0, 1) := by decide +kernel
theorem dL_pays_563 : decode cL_pays 563 = .ok (.sipush 363, 3) := by decide +kernel
theorem dL_pays_566 : decode cL_pays 566 = .ok (.invokevirtual 60, 3) := by decide +kernel
theorem dL_pays_569 : decode cL_pays 569 = .ok (.sipush 21250, 3) := by decide +kernel
theorem dL_pays_572 : decode cL_pays 572 = .ok (.if_icmp .ne 35, 3) := by decide +kernel
theorem dL_pays_575 : decode cL_pays 575 = .ok (.aload_n 0, 1) := by decide +kernel
theorem dL_pays_576 : decode cL_pays 576 = .ok (.iconst 1, 1) := by decide +kernel
theorem dL_pays_577 : decode cL_pays 577 = .ok (.iconst 0, 1) := by decide +kernel
theorem dL_pays_578 : decode cL_pays 578 = .ok (.sipush 363, 3) := by decide +kernel
theorem dL_pays_581 : decode cL_pays 581 = .ok (.invokevirtual 60, 3) := by decide +kernel
theorem dL_pays_584 : decode cL_pays 584 = .ok (.ifCond .ne 23, 3) := by decide +kernel
theorem dL_pays_587 : decode cL_pays 587 = .ok (.aload_n 0, 1) := by decide +kernel
theorem dL_pays_588 : decode cL_pays 588 = .ok (.iconst 0, 1) := by decide +kernel
theorem dL_pays_589 : decode cL_pays 589 = .ok (.iconst 0, 1) := by decide +kernel
theorem dL_pays_590 : decode cL_pays 590 = .ok (.invokevirtual 67, 3) := by decide +kernel
theorem dL_pays_593 : decode cL_pays 593 = .ok (.bipush 28, 2) := by decide +kernel
theorem dL_pays_595 : decode cL_pays 595 = .ok (.if_icmp .ne 12, 3) := by decide +kernel
theorem dL_pays_598 : decode cL_pays 598 = .ok (.aload_n 0, 1) := by decide +kernel
theorem dL_pays_599 : decode cL_pays 599 = .ok (.iconst 0, 1) := by decide +kernel
theorem dL_pays_600 : decode cL_pays 600 = .ok (.iconst 1, 1) := by decide +kernel
theorem dL_pays_601 : decode cL_pays 601 = .ok (.invokevirtual 67, 3) := by decide +kernel
theorem dL_pays_604 : decode cL_pays 604 = .ok (.ifCond .eq 5, 3) := by decide +kernel
theorem dL_pays_607 : decode cL_pays 607 = .ok (.iconst 0, 1) := by decide +kernel
theorem dL_pays_608 : decode cL_pays 608 = .ok (.ireturn, 1) := by decide +kernel
theorem dL_pays_609 : decode cL_pays 609 = .ok (.aload_n 0, 1) := by decide +kernel
theorem dL_pays_610 : decode cL_pays 610 = .ok (.iconst 1, 1) := by decide +kernel
theorem dL_pays_611 : decode cL_pays 611 = .ok (.iconst 1, 1) := by decide +kernel
theorem dL_pays_612 : decode cL_pays 612 = .ok (.bipush 30, 2) := by decide +kernel
theorem dL_pays_614 : decode cL_pays 614 = .ok (.bipush 45, 2) := by decide +kernel
theorem dL_pays_616 : decode cL_pays 616 = .ok (.invokevirtual 35, 3) := by decide +kernel
theorem dL_pays_619 : decode cL_pays 619 = .ok (.iconst 2, 1) := by decide +kernel
theorem dL_pays_620 : decode cL_pays 620 = .ok (.if_icmp .ne 280, 3) := by decide +kernel
theorem dL_pays_623 : decode cL_pays 623 = .ok (.aload_n 0, 1) := by decide +kernel
theorem dL_pays_624 : decode cL_pays 624 = .ok (.iconst 2, 1) := by decide +kernel
theorem dL_pays_625 : decode cL_pays 625 = .ok (.bipush 31, 2) := by decide +kernel
