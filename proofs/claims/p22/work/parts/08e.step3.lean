theorem dL_isStep_511 : decode cL_isStep 511 = .ok (.iconst 1, 1) := by decide +kernel
theorem dL_isStep_512 : decode cL_isStep 512 = .ok (.goto 4, 3) := by decide +kernel
theorem dL_isStep_515 : decode cL_isStep 515 = .ok (.iconst 0, 1) := by decide +kernel
theorem dL_isStep_516 : decode cL_isStep 516 = .ok (.ireturn, 1) := by decide +kernel
theorem dL_isStep_517 : decode cL_isStep 517 = .ok (.aload_n 0, 1) := by decide +kernel
theorem dL_isStep_518 : decode cL_isStep 518 = .ok (.iload 5, 2) := by decide +kernel
theorem dL_isStep_520 : decode cL_isStep 520 = .ok (.iconst 0, 1) := by decide +kernel
theorem dL_isStep_521 : decode cL_isStep 521 = .ok (.invokevirtual 15, 3) := by decide +kernel
theorem dL_isStep_524 : decode cL_isStep 524 = .ok (.istore 6, 2) := by decide +kernel
theorem dL_isStep_526 : decode cL_isStep 526 = .ok (.aload_n 0, 1) := by decide +kernel
theorem dL_isStep_527 : decode cL_isStep 527 = .ok (.iload 5, 2) := by decide +kernel
theorem dL_isStep_529 : decode cL_isStep 529 = .ok (.bipush 8, 2) := by decide +kernel
theorem dL_isStep_531 : decode cL_isStep 531 = .ok (.invokevirtual 15, 3) := by decide +kernel
theorem dL_isStep_534 : decode cL_isStep 534 = .ok (.istore 7, 2) := by decide +kernel
theorem dL_isStep_536 : decode cL_isStep 536 = .ok (.aload_n 0, 1) := by decide +kernel
theorem dL_isStep_537 : decode cL_isStep 537 = .ok (.iconst 4, 1) := by decide +kernel
theorem dL_isStep_538 : decode cL_isStep 538 = .ok (.invokevirtual 19, 3) := by decide +kernel
theorem dL_isStep_541 : decode cL_isStep 541 = .ok (.istore 8, 2) := by decide +kernel
theorem dL_isStep_543 : decode cL_isStep 543 = .ok (.aload_n 0, 1) := by decide +kernel
theorem dL_isStep_544 : decode cL_isStep 544 = .ok (.iload 5, 2) := by decide +kernel
theorem dL_isStep_546 : decode cL_isStep 546 = .ok (.invokevirtual 53, 3) := by decide +kernel
theorem dL_isStep_549 : decode cL_isStep 549 = .ok (.istore 9, 2) := by decide +kernel
theorem dL_isStep_551 : decode cL_isStep 551 = .ok (.iload 9, 2) := by decide +kernel
theorem dL_isStep_553 : decode cL_isStep 553 = .ok (.aload_n 1, 1) := by decide +kernel
theorem dL_isStep_554 : decode cL_isStep 554 = .ok (.iconst 5, 1) := by decide +kernel
theorem dL_isStep_555 : decode cL_isStep 555 = .ok (.iload 5, 2) := by decide +kernel
theorem dL_isStep_557 : decode cL_isStep 557 = .ok (.isub, 1) := by decide +kernel
theorem dL_isStep_558 : decode cL_isStep 558 = .ok (.invokevirtual 53, 3) := by decide +kernel
theorem dL_isStep_561 : decode cL_isStep 561 = .ok (.if_icmp .ne 64, 3) := by decide +kernel
theorem dL_isStep_564 : decode cL_isStep 564 = .ok (.iload 6, 2) := by decide +kernel
theorem dL_isStep_566 : decode cL_isStep 566 = .ok (.ifCond .ne 13, 3) := by decide +kernel
theorem dL_isStep_569 : decode cL_isStep 569 = .ok (.iload 9, 2) := by decide +kernel
theorem dL_isStep_571 : decode cL_isStep 571 = .ok (.bipush (-5), 2) := by decide +kernel
theorem dL_isStep_573 : decode cL_isStep 573 = .ok (.if_icmp .ne 52, 3) := by decide +kernel
theorem dL_isStep_576 : decode cL_isStep 576 = .ok (.goto 45, 3) := by decide +kernel
theorem dL_isStep_579 : decode cL_isStep 579 = .ok (.iload 9, 2) := by decide +kernel
theorem dL_isStep_581 : decode cL_isStep 581 = .ok (.iload 6, 2) := by decide +kernel
theorem dL_isStep_583 : decode cL_isStep 583 = .ok (.if_icmp .ne 42, 3) := by decide +kernel
theorem dL_isStep_586 : decode cL_isStep 586 = .ok (.aload_n 0, 1) := by decide +kernel
theorem dL_isStep_587 : decode cL_isStep 587 = .ok (.iload 5, 2) := by decide +kernel
theorem dL_isStep_589 : decode cL_isStep 589 = .ok (.bipush 8, 2) := by decide +kernel
theorem dL_isStep_591 : decode cL_isStep 591 = .ok (.invokevirtual 15, 3) := by decide +kernel
theorem dL_isStep_594 : decode cL_isStep 594 = .ok (.iload 7, 2) := by decide +kernel
theorem dL_isStep_596 : decode cL_isStep 596 = .ok (.iconst 1, 1) := by decide +kernel
theorem dL_isStep_597 : decode cL_isStep 597 = .ok (.iadd, 1) := by decide +kernel
theorem dL_isStep_598 : decode cL_isStep 598 = .ok (.if_icmp .ne 27, 3) := by decide +kernel
theorem dL_isStep_601 : decode cL_isStep 601 = .ok (.aload_n 0, 1) := by decide +kernel
theorem dL_isStep_602 : decode cL_isStep 602 = .ok (.iload 5, 2) := by decide +kernel
theorem dL_isStep_604 : decode cL_isStep 604 = .ok (.iconst 0, 1) := by decide +kernel
theorem dL_isStep_605 : decode cL_isStep 605 = .ok (.invokevirtual 15, 3) := by decide +kernel
theorem dL_isStep_608 : decode cL_isStep 608 = .ok (.ifCond .ne 17, 3) := by decide +kernel
theorem dL_isStep_611 : decode cL_isStep 611 = .ok (.aload_n 0, 1) := by decide +kernel
theorem dL_isStep_612 : decode cL_isStep 612 = .ok (.iconst 4, 1) := by decide +kernel
theorem dL_isStep_613 : decode cL_isStep 613 = .ok (.invokevirtual 19, 3) := by decide +kernel
theorem dL_isStep_616 : decode cL_isStep 616 = .ok (.iload 8, 2) := by decide +kernel
theorem dL_isStep_618 : decode cL_isStep 618 = .ok (.if_icmp .ne 7, 3) := by decide +kernel
theorem dL_isStep_621 : decode cL_isStep 621 = .ok (.iconst 1, 1) := by decide +kernel
theorem dL_isStep_622 : decode cL_isStep 622 = .ok (.goto 4, 3) := by decide +kernel
theorem dL_isStep_625 : decode cL_isStep 625 = .ok (.iconst 0, 1) := by decide +kernel
theorem dL_isStep_626 : decode cL_isStep 626 = .ok (.ireturn, 1) := by decide +kernel
theorem dL_isStep_627 : decode cL_isStep 627 = .ok (.iload_n 3, 1) := by decide +kernel
theorem dL_isStep_628 : decode cL_isStep 628 = .ok (.iconst 2, 1) := by decide +kernel
theorem dL_isStep_629 : decode cL_isStep 629 = .ok (.invokestatic 23, 3) := by decide +kernel
theorem dL_isStep_632 : decode cL_isStep 632 = .ok (.ifCond .ne 34, 3) := by decide +kernel
theorem dL_isStep_635 : decode cL_isStep 635 = .ok (.aload_n 0, 1) := by decide +kernel
theorem dL_isStep_636 : decode cL_isStep 636 = .ok (.iload 4, 2) := by decide +kernel
theorem dL_isStep_638 : decode cL_isStep 638 = .ok (.iconst 2, 1) := by decide +kernel
theorem dL_isStep_639 : decode cL_isStep 639 = .ok (.invokestatic 23, 3) := by decide +kernel
theorem dL_isStep_642 : decode cL_isStep 642 = .ok (.invokevirtual 56, 3) := by decide +kernel
theorem dL_isStep_645 : decode cL_isStep 645 = .ok (.aload_n 1, 1) := by decide +kernel
theorem dL_isStep_646 : decode cL_isStep 646 = .ok (.iload 4, 2) := by decide +kernel
theorem dL_isStep_648 : decode cL_isStep 648 = .ok (.iconst 2, 1) := by decide +kernel
theorem dL_isStep_649 : decode cL_isStep 649 = .ok (.invokestatic 23, 3) := by decide +kernel
theorem dL_isStep_652 : decode cL_isStep 652 = .ok (.invokevirtual 56, 3) := by decide +kernel
theorem dL_isStep_655 : decode cL_isStep 655 = .ok (.if_icmp .ne 7, 3) := by decide +kernel
theorem dL_isStep_658 : decode cL_isStep 658 = .ok (.iconst 1, 1) := by decide +kernel
theorem dL_isStep_659 : decode cL_isStep 659 = .ok (.goto 35, 3) := by decide +kernel
theorem dL_isStep_662 : decode cL_isStep 662 = .ok (.iconst 0, 1) := by decide +kernel
theorem dL_isStep_663 : decode cL_isStep 663 = .ok (.goto 31, 3) := by decide +kernel
theorem dL_isStep_666 : decode cL_isStep 666 = .ok (.aload_n 0, 1) := by decide +kernel
theorem dL_isStep_667 : decode cL_isStep 667 = .ok (.iload 4, 2) := by decide +kernel
theorem dL_isStep_669 : decode cL_isStep 669 = .ok (.iconst 2, 1) := by decide +kernel
theorem dL_isStep_670 : decode cL_isStep 670 = .ok (.invokestatic 23, 3) := by decide +kernel
theorem dL_isStep_673 : decode cL_isStep 673 = .ok (.invokevirtual 59, 3) := by decide +kernel
theorem dL_isStep_676 : decode cL_isStep 676 = .ok (.aload_n 1, 1) := by decide +kernel
theorem dL_isStep_677 : decode cL_isStep 677 = .ok (.iload 4, 2) := by decide +kernel
theorem dL_isStep_679 : decode cL_isStep 679 = .ok (.iconst 2, 1) := by decide +kernel
