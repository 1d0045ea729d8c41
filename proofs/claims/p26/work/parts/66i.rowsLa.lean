theorem dL_act_504 : decode cL_act 504 = .ok (.goto 5, 3) := by decide +kernel
theorem dL_act_507 : decode cL_act 507 = .ok (.iload 6, 2) := by decide +kernel
theorem dL_act_509 : decode cL_act 509 = .ok (.if_icmp .ne 39, 3) := by decide +kernel
theorem dL_act_512 : decode cL_act 512 = .ok (.aload_n 0, 1) := by decide +kernel
theorem dL_act_513 : decode cL_act 513 = .ok (.iconst 4, 1) := by decide +kernel
theorem dL_act_514 : decode cL_act 514 = .ok (.invokevirtual 31, 3) := by decide +kernel
theorem dL_act_517 : decode cL_act 517 = .ok (.iload 10, 2) := by decide +kernel
theorem dL_act_519 : decode cL_act 519 = .ok (.if_icmp .ne 29, 3) := by decide +kernel
theorem dL_act_522 : decode cL_act 522 = .ok (.aload_n 0, 1) := by decide +kernel
theorem dL_act_523 : decode cL_act 523 = .ok (.bipush 7, 2) := by decide +kernel
theorem dL_act_525 : decode cL_act 525 = .ok (.invokevirtual 31, 3) := by decide +kernel
theorem dL_act_528 : decode cL_act 528 = .ok (.iload 8, 2) := by decide +kernel
theorem dL_act_530 : decode cL_act 530 = .ok (.iload 9, 2) := by decide +kernel
theorem dL_act_532 : decode cL_act 532 = .ok (.ifCond .eq 7, 3) := by decide +kernel
theorem dL_act_535 : decode cL_act 535 = .ok (.iconst 0, 1) := by decide +kernel
theorem dL_act_536 : decode cL_act 536 = .ok (.goto 4, 3) := by decide +kernel
theorem dL_act_539 : decode cL_act 539 = .ok (.iconst 1, 1) := by decide +kernel
theorem dL_act_540 : decode cL_act 540 = .ok (.iadd, 1) := by decide +kernel
theorem dL_act_541 : decode cL_act 541 = .ok (.if_icmp .ne 7, 3) := by decide +kernel
theorem dL_act_544 : decode cL_act 544 = .ok (.iconst 1, 1) := by decide +kernel
theorem dL_act_545 : decode cL_act 545 = .ok (.goto 4, 3) := by decide +kernel
theorem dL_act_548 : decode cL_act 548 = .ok (.iconst 0, 1) := by decide +kernel
theorem dL_act_549 : decode cL_act 549 = .ok (.ireturn, 1) := by decide +kernel
theorem dL_act_550 : decode cL_act 550 = .ok (.aload_n 0, 1) := by decide +kernel
theorem dL_act_551 : decode cL_act 551 = .ok (.iload 4, 2) := by decide +kernel
theorem dL_act_553 : decode cL_act 553 = .ok (.iload 5, 2) := by decide +kernel
theorem dL_act_555 : decode cL_act 555 = .ok (.iconst 2, 1) := by decide +kernel
theorem dL_act_556 : decode cL_act 556 = .ok (.invokevirtual 10, 3) := by decide +kernel
theorem dL_act_559 : decode cL_act 559 = .ok (.istore 9, 2) := by decide +kernel
theorem dL_act_561 : decode cL_act 561 = .ok (.aload_n 0, 1) := by decide +kernel
theorem dL_act_562 : decode cL_act 562 = .ok (.iload 4, 2) := by decide +kernel
theorem dL_act_564 : decode cL_act 564 = .ok (.iload 5, 2) := by decide +kernel
theorem dL_act_566 : decode cL_act 566 = .ok (.invokevirtual 70, 3) := by decide +kernel
theorem dL_act_569 : decode cL_act 569 = .ok (.iload 9, 2) := by decide +kernel
theorem dL_act_571 : decode cL_act 571 = .ok (.if_icmp .ne 78, 3) := by decide +kernel
theorem dL_act_574 : decode cL_act 574 = .ok (.iload 9, 2) := by decide +kernel
theorem dL_act_576 : decode cL_act 576 = .ok (.ifCond .ge 39, 3) := by decide +kernel
theorem dL_act_579 : decode cL_act 579 = .ok (.aload_n 0, 1) := by decide +kernel
theorem dL_act_580 : decode cL_act 580 = .ok (.iconst 2, 1) := by decide +kernel
theorem dL_act_581 : decode cL_act 581 = .ok (.invokevirtual 31, 3) := by decide +kernel
theorem dL_act_584 : decode cL_act 584 = .ok (.iload 6, 2) := by decide +kernel
theorem dL_act_586 : decode cL_act 586 = .ok (.if_icmp .ne 63, 3) := by decide +kernel
theorem dL_act_589 : decode cL_act 589 = .ok (.aload_n 0, 1) := by decide +kernel
theorem dL_act_590 : decode cL_act 590 = .ok (.iconst 3, 1) := by decide +kernel
theorem dL_act_591 : decode cL_act 591 = .ok (.invokevirtual 31, 3) := by decide +kernel
theorem dL_act_594 : decode cL_act 594 = .ok (.iload 7, 2) := by decide +kernel
theorem dL_act_596 : decode cL_act 596 = .ok (.if_icmp .ne 53, 3) := by decide +kernel
theorem dL_act_599 : decode cL_act 599 = .ok (.aload_n 0, 1) := by decide +kernel
theorem dL_act_600 : decode cL_act 600 = .ok (.bipush 7, 2) := by decide +kernel
theorem dL_act_602 : decode cL_act 602 = .ok (.invokevirtual 31, 3) := by decide +kernel
theorem dL_act_605 : decode cL_act 605 = .ok (.iload 8, 2) := by decide +kernel
theorem dL_act_607 : decode cL_act 607 = .ok (.iconst 1, 1) := by decide +kernel
theorem dL_act_608 : decode cL_act 608 = .ok (.iadd, 1) := by decide +kernel
theorem dL_act_609 : decode cL_act 609 = .ok (.if_icmp .ne 40, 3) := by decide +kernel
theorem dL_act_612 : decode cL_act 612 = .ok (.goto 33, 3) := by decide +kernel
theorem dL_act_615 : decode cL_act 615 = .ok (.aload_n 0, 1) := by decide +kernel
theorem dL_act_616 : decode cL_act 616 = .ok (.iconst 2, 1) := by decide +kernel
theorem dL_act_617 : decode cL_act 617 = .ok (.invokevirtual 31, 3) := by decide +kernel
theorem dL_act_620 : decode cL_act 620 = .ok (.iload 4, 2) := by decide +kernel
theorem dL_act_622 : decode cL_act 622 = .ok (.if_icmp .ne 27, 3) := by decide +kernel
theorem dL_act_625 : decode cL_act 625 = .ok (.aload_n 0, 1) := by decide +kernel
theorem dL_act_626 : decode cL_act 626 = .ok (.iconst 3, 1) := by decide +kernel
theorem dL_act_627 : decode cL_act 627 = .ok (.invokevirtual 31, 3) := by decide +kernel
theorem dL_act_630 : decode cL_act 630 = .ok (.iload 5, 2) := by decide +kernel
theorem dL_act_632 : decode cL_act 632 = .ok (.if_icmp .ne 17, 3) := by decide +kernel
theorem dL_act_635 : decode cL_act 635 = .ok (.aload_n 0, 1) := by decide +kernel
theorem dL_act_636 : decode cL_act 636 = .ok (.iconst 4, 1) := by decide +kernel
theorem dL_act_637 : decode cL_act 637 = .ok (.invokevirtual 31, 3) := by decide +kernel
theorem dL_act_640 : decode cL_act 640 = .ok (.iload 9, 2) := by decide +kernel
theorem dL_act_642 : decode cL_act 642 = .ok (.if_icmp .ne 7, 3) := by decide +kernel
theorem dL_act_645 : decode cL_act 645 = .ok (.iconst 1, 1) := by decide +kernel
theorem dL_act_646 : decode cL_act 646 = .ok (.goto 4, 3) := by decide +kernel
theorem dL_act_649 : decode cL_act 649 = .ok (.iconst 0, 1) := by decide +kernel
theorem dL_act_650 : decode cL_act 650 = .ok (.ireturn, 1) := by decide +kernel
theorem dL_act_651 : decode cL_act 651 = .ok (.iload_n 2, 1) := by decide +kernel
theorem dL_act_652 : decode cL_act 652 = .ok (.iconst 3, 1) := by decide +kernel
theorem dL_act_653 : decode cL_act 653 = .ok (.ishr, 1) := by decide +kernel
theorem dL_act_654 : decode cL_act 654 = .ok (.iconst 4, 1) := by decide +kernel
theorem dL_act_655 : decode cL_act 655 = .ok (.invokestatic 54, 3) := by decide +kernel
theorem dL_act_658 : decode cL_act 658 = .ok (.istore 9, 2) := by decide +kernel
theorem dL_act_660 : decode cL_act 660 = .ok (.aload_n 0, 1) := by decide +kernel
theorem dL_act_661 : decode cL_act 661 = .ok (.iload 6, 2) := by decide +kernel
theorem dL_act_663 : decode cL_act 663 = .ok (.iload 7, 2) := by decide +kernel
theorem dL_act_665 : decode cL_act 665 = .ok (.iload_n 3, 1) := by decide +kernel
theorem dL_act_666 : decode cL_act 666 = .ok (.iload 9, 2) := by decide +kernel
theorem dL_act_668 : decode cL_act 668 = .ok (.iconst 0, 1) := by decide +kernel
theorem dL_act_669 : decode cL_act 669 = .ok (.invokevirtual 16, 3) := by decide +kernel
