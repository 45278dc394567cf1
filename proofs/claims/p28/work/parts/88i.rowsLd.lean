theorem dL_texts_541 : decode cL_texts 541 = .ok (.aload_n 0, 1) := by decide +kernel
theorem dL_texts_542 : decode cL_texts 542 = .ok (.iconst 1, 1) := by decide +kernel
theorem dL_texts_543 : decode cL_texts 543 = .ok (.invokevirtual 13, 3) := by decide +kernel
theorem dL_texts_546 : decode cL_texts 546 = .ok (.ifCond .ne 20, 3) := by decide +kernel
theorem dL_texts_549 : decode cL_texts 549 = .ok (.aload_n 0, 1) := by decide +kernel
theorem dL_texts_550 : decode cL_texts 550 = .ok (.iconst 5, 1) := by decide +kernel
theorem dL_texts_551 : decode cL_texts 551 = .ok (.invokevirtual 13, 3) := by decide +kernel
theorem dL_texts_554 : decode cL_texts 554 = .ok (.ifCond .ne 12, 3) := by decide +kernel
theorem dL_texts_557 : decode cL_texts 557 = .ok (.aload_n 0, 1) := by decide +kernel
theorem dL_texts_558 : decode cL_texts 558 = .ok (.invokevirtual 104, 3) := by decide +kernel
theorem dL_texts_561 : decode cL_texts 561 = .ok (.bipush 15, 2) := by decide +kernel
theorem dL_texts_563 : decode cL_texts 563 = .ok (.if_icmp .eq 5, 3) := by decide +kernel
theorem dL_texts_566 : decode cL_texts 566 = .ok (.iconst 0, 1) := by decide +kernel
theorem dL_texts_567 : decode cL_texts 567 = .ok (.ireturn, 1) := by decide +kernel
theorem dL_texts_568 : decode cL_texts 568 = .ok (.iconst 0, 1) := by decide +kernel
theorem dL_texts_569 : decode cL_texts 569 = .ok (.istore_n 1, 1) := by decide +kernel
theorem dL_texts_570 : decode cL_texts 570 = .ok (.iload_n 1, 1) := by decide +kernel
theorem dL_texts_571 : decode cL_texts 571 = .ok (.sipush 200, 3) := by decide +kernel
theorem dL_texts_574 : decode cL_texts 574 = .ok (.if_icmp .ge 21, 3) := by decide +kernel
theorem dL_texts_577 : decode cL_texts 577 = .ok (.aload_n 0, 1) := by decide +kernel
theorem dL_texts_578 : decode cL_texts 578 = .ok (.sipush 500, 3) := by decide +kernel
theorem dL_texts_581 : decode cL_texts 581 = .ok (.invokevirtual 93, 3) := by decide +kernel
theorem dL_texts_584 : decode cL_texts 584 = .ok (.ifCond .eq 5, 3) := by decide +kernel
theorem dL_texts_587 : decode cL_texts 587 = .ok (.iconst 0, 1) := by decide +kernel
theorem dL_texts_588 : decode cL_texts 588 = .ok (.ireturn, 1) := by decide +kernel
theorem dL_texts_589 : decode cL_texts 589 = .ok (.iinc 1 1, 3) := by decide +kernel
theorem dL_texts_592 : decode cL_texts 592 = .ok (.goto (-22), 3) := by decide +kernel
theorem dL_texts_595 : decode cL_texts 595 = .ok (.aload_n 0, 1) := by decide +kernel
theorem dL_texts_596 : decode cL_texts 596 = .ok (.iconst 1, 1) := by decide +kernel
theorem dL_texts_597 : decode cL_texts 597 = .ok (.invokevirtual 93, 3) := by decide +kernel
theorem dL_texts_600 : decode cL_texts 600 = .ok (.bipush (-3), 2) := by decide +kernel
theorem dL_texts_602 : decode cL_texts 602 = .ok (.if_icmp .ne 43, 3) := by decide +kernel
theorem dL_texts_605 : decode cL_texts 605 = .ok (.aload_n 0, 1) := by decide +kernel
theorem dL_texts_606 : decode cL_texts 606 = .ok (.iconst 0, 1) := by decide +kernel
theorem dL_texts_607 : decode cL_texts 607 = .ok (.invokevirtual 93, 3) := by decide +kernel
theorem dL_texts_610 : decode cL_texts 610 = .ok (.iconst (-1), 1) := by decide +kernel
theorem dL_texts_611 : decode cL_texts 611 = .ok (.if_icmp .ne 34, 3) := by decide +kernel
theorem dL_texts_614 : decode cL_texts 614 = .ok (.aload_n 0, 1) := by decide +kernel
theorem dL_texts_615 : decode cL_texts 615 = .ok (.ldc2_w 183, 3) := by decide +kernel
theorem dL_texts_618 : decode cL_texts 618 = .ok (.lconst 0, 1) := by decide +kernel
theorem dL_texts_619 : decode cL_texts 619 = .ok (.iconst 0, 1) := by decide +kernel
theorem dL_texts_620 : decode cL_texts 620 = .ok (.iconst 4, 1) := by decide +kernel
theorem dL_texts_621 : decode cL_texts 621 = .ok (.invokestatic 118, 3) := by decide +kernel
theorem dL_texts_624 : decode cL_texts 624 = .ok (.ifCond .eq 21, 3) := by decide +kernel
theorem dL_texts_627 : decode cL_texts 627 = .ok (.aload_n 0, 1) := by decide +kernel
theorem dL_texts_628 : decode cL_texts 628 = .ok (.invokevirtual 113, 3) := by decide +kernel
theorem dL_texts_631 : decode cL_texts 631 = .ok (.bipush (-2), 2) := by decide +kernel
theorem dL_texts_633 : decode cL_texts 633 = .ok (.if_icmp .ne 12, 3) := by decide +kernel
theorem dL_texts_636 : decode cL_texts 636 = .ok (.aload_n 0, 1) := by decide +kernel
theorem dL_texts_637 : decode cL_texts 637 = .ok (.invokevirtual 104, 3) := by decide +kernel
theorem dL_texts_640 : decode cL_texts 640 = .ok (.bipush 8, 2) := by decide +kernel
theorem dL_texts_642 : decode cL_texts 642 = .ok (.if_icmp .eq 5, 3) := by decide +kernel
theorem dL_texts_645 : decode cL_texts 645 = .ok (.iconst 0, 1) := by decide +kernel
theorem dL_texts_646 : decode cL_texts 646 = .ok (.ireturn, 1) := by decide +kernel
theorem dL_texts_647 : decode cL_texts 647 = .ok (.iconst 1, 1) := by decide +kernel
theorem dL_texts_648 : decode cL_texts 648 = .ok (.istore_n 1, 1) := by decide +kernel
theorem dL_texts_649 : decode cL_texts 649 = .ok (.iload_n 1, 1) := by decide +kernel
theorem dL_texts_650 : decode cL_texts 650 = .ok (.bipush 80, 2) := by decide +kernel
theorem dL_texts_652 : decode cL_texts 652 = .ok (.if_icmp .gt 21, 3) := by decide +kernel
theorem dL_texts_655 : decode cL_texts 655 = .ok (.aload_n 0, 1) := by decide +kernel
theorem dL_texts_656 : decode cL_texts 656 = .ok (.bipush 48, 2) := by decide +kernel
theorem dL_texts_658 : decode cL_texts 658 = .ok (.invokevirtual 96, 3) := by decide +kernel
theorem dL_texts_661 : decode cL_texts 661 = .ok (.iload_n 1, 1) := by decide +kernel
theorem dL_texts_662 : decode cL_texts 662 = .ok (.if_icmp .eq 5, 3) := by decide +kernel
theorem dL_texts_665 : decode cL_texts 665 = .ok (.iconst 0, 1) := by decide +kernel
theorem dL_texts_666 : decode cL_texts 666 = .ok (.ireturn, 1) := by decide +kernel
theorem dL_texts_667 : decode cL_texts 667 = .ok (.iinc 1 1, 3) := by decide +kernel
theorem dL_texts_670 : decode cL_texts 670 = .ok (.goto (-21), 3) := by decide +kernel
theorem dL_texts_673 : decode cL_texts 673 = .ok (.aload_n 0, 1) := by decide +kernel
theorem dL_texts_674 : decode cL_texts 674 = .ok (.bipush 48, 2) := by decide +kernel
theorem dL_texts_676 : decode cL_texts 676 = .ok (.invokevirtual 96, 3) := by decide +kernel
theorem dL_texts_679 : decode cL_texts 679 = .ok (.bipush (-3), 2) := by decide +kernel
theorem dL_texts_681 : decode cL_texts 681 = .ok (.if_icmp .ne 35, 3) := by decide +kernel
theorem dL_texts_684 : decode cL_texts 684 = .ok (.aload_n 0, 1) := by decide +kernel
theorem dL_texts_685 : decode cL_texts 685 = .ok (.bipush 31, 2) := by decide +kernel
theorem dL_texts_687 : decode cL_texts 687 = .ok (.invokevirtual 96, 3) := by decide +kernel
theorem dL_texts_690 : decode cL_texts 690 = .ok (.iconst (-1), 1) := by decide +kernel
theorem dL_texts_691 : decode cL_texts 691 = .ok (.if_icmp .ne 25, 3) := by decide +kernel
theorem dL_texts_694 : decode cL_texts 694 = .ok (.aload_n 0, 1) := by decide +kernel
theorem dL_texts_695 : decode cL_texts 695 = .ok (.iconst 1, 1) := by decide +kernel
theorem dL_texts_696 : decode cL_texts 696 = .ok (.invokevirtual 99, 3) := by decide +kernel
theorem dL_texts_699 : decode cL_texts 699 = .ok (.iconst 1, 1) := by decide +kernel
theorem dL_texts_700 : decode cL_texts 700 = .ok (.if_icmp .ne 16, 3) := by decide +kernel
theorem dL_texts_703 : decode cL_texts 703 = .ok (.aload_n 0, 1) := by decide +kernel
theorem dL_texts_704 : decode cL_texts 704 = .ok (.invokevirtual 104, 3) := by decide +kernel
theorem dL_texts_707 : decode cL_texts 707 = .ok (.bipush 80, 2) := by decide +kernel
theorem dL_texts_709 : decode cL_texts 709 = .ok (.if_icmp .ne 7, 3) := by decide +kernel
theorem dL_texts_712 : decode cL_texts 712 = .ok (.iconst 1, 1) := by decide +kernel
theorem dL_texts_713 : decode cL_texts 713 = .ok (.goto 4, 3) := by decide +kernel
theorem dL_texts_716 : decode cL_texts 716 = .ok (.iconst 0, 1) := by decide +kernel
theorem dL_texts_717 : decode cL_texts 717 = .ok (.ireturn, 1) := by decide +kernel
