theorem d_Law_law_465 : decode code 465 = .ok (.aload_n 3, 1) := by decide +kernel
theorem d_Law_law_466 : decode code 466 = .ok (.invokestatic 90, 3) := by decide +kernel
theorem d_Law_law_469 : decode code 469 = .ok (.istore 5, 2) := by decide +kernel
theorem d_Law_law_471 : decode code 471 = .ok (.aload_n 2, 1) := by decide +kernel
theorem d_Law_law_472 : decode code 472 = .ok (.invokevirtual 92, 3) := by decide +kernel
theorem d_Law_law_475 : decode code 475 = .ok (.istore 6, 2) := by decide +kernel
theorem d_Law_law_477 : decode code 477 = .ok (.aload_n 2, 1) := by decide +kernel
theorem d_Law_law_478 : decode code 478 = .ok (.invokevirtual 65, 3) := by decide +kernel
theorem d_Law_law_481 : decode code 481 = .ok (.iload 5, 2) := by decide +kernel
theorem d_Law_law_483 : decode code 483 = .ok (.if_icmp .eq 5, 3) := by decide +kernel
theorem d_Law_law_488 : decode code 488 = .ok (.iload 5, 2) := by decide +kernel
theorem d_Law_law_490 : decode code 490 = .ok (.ifCond .ne 15, 3) := by decide +kernel
theorem d_Law_law_505 : decode code 505 = .ok (.goto 121, 3) := by decide +kernel
theorem d_Law_law_508 : decode code 508 = .ok (.aload_n 1, 1) := by decide +kernel
theorem d_Law_law_509 : decode code 509 = .ok (.aload_n 0, 1) := by decide +kernel
theorem d_Law_law_510 : decode code 510 = .ok (.iload 4, 2) := by decide +kernel
theorem d_Law_law_512 : decode code 512 = .ok (.iconst 1, 1) := by decide +kernel
theorem d_Law_law_513 : decode code 513 = .ok (.iadd, 1) := by decide +kernel
theorem d_Law_law_514 : decode code 514 = .ok (.iaload, 1) := by decide +kernel
theorem d_Law_law_515 : decode code 515 = .ok (.aload_n 0, 1) := by decide +kernel
theorem d_Law_law_516 : decode code 516 = .ok (.iload 4, 2) := by decide +kernel
theorem d_Law_law_518 : decode code 518 = .ok (.iconst 2, 1) := by decide +kernel
theorem d_Law_law_519 : decode code 519 = .ok (.iadd, 1) := by decide +kernel
theorem d_Law_law_520 : decode code 520 = .ok (.iaload, 1) := by decide +kernel
theorem d_Law_law_521 : decode code 521 = .ok (.aload_n 3, 1) := by decide +kernel
theorem d_Law_law_522 : decode code 522 = .ok (.invokestatic 93, 3) := by decide +kernel
theorem d_Law_law_525 : decode code 525 = .ok (.istore 5, 2) := by decide +kernel
theorem d_Law_law_527 : decode code 527 = .ok (.aload_n 2, 1) := by decide +kernel
theorem d_Law_law_528 : decode code 528 = .ok (.aload_n 0, 1) := by decide +kernel
theorem d_Law_law_529 : decode code 529 = .ok (.iload 4, 2) := by decide +kernel
theorem d_Law_law_531 : decode code 531 = .ok (.iconst 1, 1) := by decide +kernel
theorem d_Law_law_532 : decode code 532 = .ok (.iadd, 1) := by decide +kernel
theorem d_Law_law_533 : decode code 533 = .ok (.iaload, 1) := by decide +kernel
theorem d_Law_law_534 : decode code 534 = .ok (.aload_n 0, 1) := by decide +kernel
theorem d_Law_law_535 : decode code 535 = .ok (.iload 4, 2) := by decide +kernel
theorem d_Law_law_537 : decode code 537 = .ok (.iconst 2, 1) := by decide +kernel
theorem d_Law_law_538 : decode code 538 = .ok (.iadd, 1) := by decide +kernel
theorem d_Law_law_539 : decode code 539 = .ok (.iaload, 1) := by decide +kernel
theorem d_Law_law_540 : decode code 540 = .ok (.invokevirtual 96, 3) := by decide +kernel
theorem d_Law_law_543 : decode code 543 = .ok (.istore 6, 2) := by decide +kernel
theorem d_Law_law_545 : decode code 545 = .ok (.aload_n 2, 1) := by decide +kernel
theorem d_Law_law_546 : decode code 546 = .ok (.invokevirtual 65, 3) := by decide +kernel
theorem d_Law_law_549 : decode code 549 = .ok (.iload 5, 2) := by decide +kernel
theorem d_Law_law_551 : decode code 551 = .ok (.if_icmp .eq 5, 3) := by decide +kernel
theorem d_Law_law_556 : decode code 556 = .ok (.iload 5, 2) := by decide +kernel
theorem d_Law_law_558 : decode code 558 = .ok (.ifCond .ne 15, 3) := by decide +kernel
theorem d_Law_law_573 : decode code 573 = .ok (.goto 53, 3) := by decide +kernel
theorem d_Law_law_576 : decode code 576 = .ok (.aload_n 1, 1) := by decide +kernel
theorem d_Law_law_577 : decode code 577 = .ok (.aload_n 0, 1) := by decide +kernel
theorem d_Law_law_578 : decode code 578 = .ok (.iload 4, 2) := by decide +kernel
theorem d_Law_law_580 : decode code 580 = .ok (.iconst 1, 1) := by decide +kernel
theorem d_Law_law_581 : decode code 581 = .ok (.iadd, 1) := by decide +kernel
theorem d_Law_law_582 : decode code 582 = .ok (.iaload, 1) := by decide +kernel
theorem d_Law_law_583 : decode code 583 = .ok (.invokevirtual 97, 3) := by decide +kernel
theorem d_Law_law_586 : decode code 586 = .ok (.aload_n 2, 1) := by decide +kernel
theorem d_Law_law_587 : decode code 587 = .ok (.aload_n 0, 1) := by decide +kernel
theorem d_Law_law_588 : decode code 588 = .ok (.iload 4, 2) := by decide +kernel
theorem d_Law_law_590 : decode code 590 = .ok (.iconst 1, 1) := by decide +kernel
theorem d_Law_law_591 : decode code 591 = .ok (.iadd, 1) := by decide +kernel
theorem d_Law_law_592 : decode code 592 = .ok (.iaload, 1) := by decide +kernel
theorem d_Law_law_593 : decode code 593 = .ok (.invokevirtual 100, 3) := by decide +kernel
theorem d_Law_law_596 : decode code 596 = .ok (.if_icmp .eq 30, 3) := by decide +kernel
theorem d_Law_law_601 : decode code 601 = .ok (.aload_n 1, 1) := by decide +kernel
theorem d_Law_law_602 : decode code 602 = .ok (.aload_n 0, 1) := by decide +kernel
theorem d_Law_law_603 : decode code 603 = .ok (.iload 4, 2) := by decide +kernel
theorem d_Law_law_605 : decode code 605 = .ok (.iconst 1, 1) := by decide +kernel
theorem d_Law_law_606 : decode code 606 = .ok (.iadd, 1) := by decide +kernel
theorem d_Law_law_607 : decode code 607 = .ok (.iaload, 1) := by decide +kernel
theorem d_Law_law_608 : decode code 608 = .ok (.invokevirtual 101, 3) := by decide +kernel
theorem d_Law_law_611 : decode code 611 = .ok (.aload_n 2, 1) := by decide +kernel
theorem d_Law_law_612 : decode code 612 = .ok (.aload_n 0, 1) := by decide +kernel
theorem d_Law_law_613 : decode code 613 = .ok (.iload 4, 2) := by decide +kernel
theorem d_Law_law_615 : decode code 615 = .ok (.iconst 1, 1) := by decide +kernel
theorem d_Law_law_616 : decode code 616 = .ok (.iadd, 1) := by decide +kernel
theorem d_Law_law_617 : decode code 617 = .ok (.iaload, 1) := by decide +kernel
theorem d_Law_law_618 : decode code 618 = .ok (.invokevirtual 104, 3) := by decide +kernel
theorem d_Law_law_621 : decode code 621 = .ok (.if_icmp .eq 5, 3) := by decide +kernel
theorem d_Law_law_626 : decode code 626 = .ok (.iinc 4 3, 3) := by decide +kernel
theorem d_Law_law_629 : decode code 629 = .ok (.goto (-606), 3) := by decide +kernel
theorem d_Law_law_632 : decode code 632 = .ok (.iconst 1, 1) := by decide +kernel
theorem d_Law_law_633 : decode code 633 = .ok (.ireturn, 1) := by decide +kernel
