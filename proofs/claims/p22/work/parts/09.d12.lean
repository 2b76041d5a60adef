theorem dL_hours_402 : decode cL_hours 402 = .ok (.sipush 363, 3) := by decide +kernel
theorem dL_hours_405 : decode cL_hours 405 = .ok (.iconst 1, 1) := by decide +kernel
theorem dL_hours_406 : decode cL_hours 406 = .ok (.invokevirtual 25, 3) := by decide +kernel
theorem dL_hours_409 : decode cL_hours 409 = .ok (.ifCond .ne 12, 3) := by decide +kernel
theorem dL_hours_412 : decode cL_hours 412 = .ok (.aload_n 0, 1) := by decide +kernel
theorem dL_hours_413 : decode cL_hours 413 = .ok (.iconst 0, 1) := by decide +kernel
theorem dL_hours_414 : decode cL_hours 414 = .ok (.iconst 1, 1) := by decide +kernel
theorem dL_hours_415 : decode cL_hours 415 = .ok (.invokestatic 90, 3) := by decide +kernel
theorem dL_hours_418 : decode cL_hours 418 = .ok (.ifCond .ne 5, 3) := by decide +kernel
theorem dL_hours_421 : decode cL_hours 421 = .ok (.iconst 0, 1) := by decide +kernel
theorem dL_hours_422 : decode cL_hours 422 = .ok (.ireturn, 1) := by decide +kernel
theorem dL_hours_423 : decode cL_hours 423 = .ok (.bipush 18, 2) := by decide +kernel
theorem dL_hours_425 : decode cL_hours 425 = .ok (.istore_n 1, 1) := by decide +kernel
theorem dL_hours_426 : decode cL_hours 426 = .ok (.iload_n 1, 1) := by decide +kernel
theorem dL_hours_427 : decode cL_hours 427 = .ok (.bipush 76, 2) := by decide +kernel
theorem dL_hours_429 : decode cL_hours 429 = .ok (.if_icmp .ge 29, 3) := by decide +kernel
theorem dL_hours_432 : decode cL_hours 432 = .ok (.aload_n 0, 1) := by decide +kernel
theorem dL_hours_433 : decode cL_hours 433 = .ok (.iconst 5, 1) := by decide +kernel
theorem dL_hours_434 : decode cL_hours 434 = .ok (.iconst 0, 1) := by decide +kernel
theorem dL_hours_435 : decode cL_hours 435 = .ok (.bipush 60, 2) := by decide +kernel
theorem dL_hours_437 : decode cL_hours 437 = .ok (.iconst 4, 1) := by decide +kernel
theorem dL_hours_438 : decode cL_hours 438 = .ok (.iload_n 1, 1) := by decide +kernel
theorem dL_hours_439 : decode cL_hours 439 = .ok (.imul, 1) := by decide +kernel
theorem dL_hours_440 : decode cL_hours 440 = .ok (.iadd, 1) := by decide +kernel
theorem dL_hours_441 : decode cL_hours 441 = .ok (.iconst 0, 1) := by decide +kernel
theorem dL_hours_442 : decode cL_hours 442 = .ok (.iconst 5, 1) := by decide +kernel
theorem dL_hours_443 : decode cL_hours 443 = .ok (.invokestatic 80, 3) := by decide +kernel
theorem dL_hours_446 : decode cL_hours 446 = .ok (.iload_n 1, 1) := by decide +kernel
theorem dL_hours_447 : decode cL_hours 447 = .ok (.if_icmp .eq 5, 3) := by decide +kernel
theorem dL_hours_450 : decode cL_hours 450 = .ok (.iconst 0, 1) := by decide +kernel
theorem dL_hours_451 : decode cL_hours 451 = .ok (.ireturn, 1) := by decide +kernel
theorem dL_hours_452 : decode cL_hours 452 = .ok (.iinc 1 1, 3) := by decide +kernel
theorem dL_hours_455 : decode cL_hours 455 = .ok (.goto (-29), 3) := by decide +kernel
theorem dL_hours_458 : decode cL_hours 458 = .ok (.aload_n 0, 1) := by decide +kernel
theorem dL_hours_459 : decode cL_hours 459 = .ok (.iconst 5, 1) := by decide +kernel
theorem dL_hours_460 : decode cL_hours 460 = .ok (.iconst 0, 1) := by decide +kernel
theorem dL_hours_461 : decode cL_hours 461 = .ok (.sipush 363, 3) := by decide +kernel
theorem dL_hours_464 : decode cL_hours 464 = .ok (.iconst 0, 1) := by decide +kernel
theorem dL_hours_465 : decode cL_hours 465 = .ok (.iconst 5, 1) := by decide +kernel
theorem dL_hours_466 : decode cL_hours 466 = .ok (.invokestatic 80, 3) := by decide +kernel
theorem dL_hours_469 : decode cL_hours 469 = .ok (.bipush (-72), 2) := by decide +kernel
theorem dL_hours_471 : decode cL_hours 471 = .ok (.if_icmp .ne 14, 3) := by decide +kernel
theorem dL_hours_474 : decode cL_hours 474 = .ok (.aload_n 0, 1) := by decide +kernel
theorem dL_hours_475 : decode cL_hours 475 = .ok (.invokestatic 99, 3) := by decide +kernel
theorem dL_hours_478 : decode cL_hours 478 = .ok (.ifCond .eq 7, 3) := by decide +kernel
theorem dL_hours_481 : decode cL_hours 481 = .ok (.iconst 1, 1) := by decide +kernel
theorem dL_hours_482 : decode cL_hours 482 = .ok (.goto 4, 3) := by decide +kernel
theorem dL_hours_485 : decode cL_hours 485 = .ok (.iconst 0, 1) := by decide +kernel
theorem dL_hours_486 : decode cL_hours 486 = .ok (.ireturn, 1) := by decide +kernel
