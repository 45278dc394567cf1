theorem dL_known_605 : decode cL_known 605 = .ok (.if_icmp .ne 218, 3) := by decide +kernel
theorem dL_known_608 : decode cL_known 608 = .ok (.aload_n 0, 1) := by decide +kernel
theorem dL_known_609 : decode cL_known 609 = .ok (.iconst 0, 1) := by decide +kernel
theorem dL_known_610 : decode cL_known 610 = .ok (.iconst 1, 1) := by decide +kernel
theorem dL_known_611 : decode cL_known 611 = .ok (.sipush 840, 3) := by decide +kernel
theorem dL_known_614 : decode cL_known 614 = .ok (.invokevirtual 57, 3) := by decide +kernel
theorem dL_known_617 : decode cL_known 617 = .ok (.bipush (-4), 2) := by decide +kernel
theorem dL_known_619 : decode cL_known 619 = .ok (.if_icmp .ne 204, 3) := by decide +kernel
theorem dL_known_622 : decode cL_known 622 = .ok (.aload_n 0, 1) := by decide +kernel
theorem dL_known_623 : decode cL_known 623 = .ok (.iconst 0, 1) := by decide +kernel
theorem dL_known_624 : decode cL_known 624 = .ok (.sipush 1680, 3) := by decide +kernel
theorem dL_known_627 : decode cL_known 627 = .ok (.sipush 1000, 3) := by decide +kernel
theorem dL_known_630 : decode cL_known 630 = .ok (.invokevirtual 48, 3) := by decide +kernel
theorem dL_known_633 : decode cL_known 633 = .ok (.bipush 6, 2) := by decide +kernel
theorem dL_known_635 : decode cL_known 635 = .ok (.if_icmp .ne 188, 3) := by decide +kernel
theorem dL_known_638 : decode cL_known 638 = .ok (.aload_n 0, 1) := by decide +kernel
theorem dL_known_639 : decode cL_known 639 = .ok (.iconst 0, 1) := by decide +kernel
theorem dL_known_640 : decode cL_known 640 = .ok (.iconst 1, 1) := by decide +kernel
theorem dL_known_641 : decode cL_known 641 = .ok (.iconst 0, 1) := by decide +kernel
theorem dL_known_642 : decode cL_known 642 = .ok (.invokevirtual 32, 3) := by decide +kernel
theorem dL_known_645 : decode cL_known 645 = .ok (.ldc 191, 2) := by decide +kernel
theorem dL_known_647 : decode cL_known 647 = .ok (.if_icmp .ne 176, 3) := by decide +kernel
theorem dL_known_650 : decode cL_known 650 = .ok (.aload_n 0, 1) := by decide +kernel
theorem dL_known_651 : decode cL_known 651 = .ok (.iconst 0, 1) := by decide +kernel
theorem dL_known_652 : decode cL_known 652 = .ok (.iconst 3, 1) := by decide +kernel
theorem dL_known_653 : decode cL_known 653 = .ok (.iconst 0, 1) := by decide +kernel
theorem dL_known_654 : decode cL_known 654 = .ok (.invokevirtual 32, 3) := by decide +kernel
theorem dL_known_657 : decode cL_known 657 = .ok (.ldc 192, 2) := by decide +kernel
theorem dL_known_659 : decode cL_known 659 = .ok (.if_icmp .ne 164, 3) := by decide +kernel
theorem dL_known_662 : decode cL_known 662 = .ok (.aload_n 0, 1) := by decide +kernel
theorem dL_known_663 : decode cL_known 663 = .ok (.iconst 0, 1) := by decide +kernel
theorem dL_known_664 : decode cL_known 664 = .ok (.bipush 11, 2) := by decide +kernel
theorem dL_known_666 : decode cL_known 666 = .ok (.iconst 0, 1) := by decide +kernel
theorem dL_known_667 : decode cL_known 667 = .ok (.invokevirtual 32, 3) := by decide +kernel
theorem dL_known_670 : decode cL_known 670 = .ok (.ldc 193, 2) := by decide +kernel
theorem dL_known_672 : decode cL_known 672 = .ok (.if_icmp .ne 151, 3) := by decide +kernel
theorem dL_known_675 : decode cL_known 675 = .ok (.aload_n 0, 1) := by decide +kernel
theorem dL_known_676 : decode cL_known 676 = .ok (.iconst 2, 1) := by decide +kernel
theorem dL_known_677 : decode cL_known 677 = .ok (.iconst 1, 1) := by decide +kernel
theorem dL_known_678 : decode cL_known 678 = .ok (.invokevirtual 25, 3) := by decide +kernel
theorem dL_known_681 : decode cL_known 681 = .ok (.sipush 1299, 3) := by decide +kernel
theorem dL_known_684 : decode cL_known 684 = .ok (.if_icmp .ne 139, 3) := by decide +kernel
theorem dL_known_687 : decode cL_known 687 = .ok (.aload_n 0, 1) := by decide +kernel
theorem dL_known_688 : decode cL_known 688 = .ok (.iconst 1, 1) := by decide +kernel
theorem dL_known_689 : decode cL_known 689 = .ok (.iconst 1, 1) := by decide +kernel
theorem dL_known_690 : decode cL_known 690 = .ok (.invokevirtual 25, 3) := by decide +kernel
theorem dL_known_693 : decode cL_known 693 = .ok (.sipush 999, 3) := by decide +kernel
theorem dL_known_696 : decode cL_known 696 = .ok (.if_icmp .ne 127, 3) := by decide +kernel
theorem dL_known_699 : decode cL_known 699 = .ok (.aload_n 0, 1) := by decide +kernel
theorem dL_known_700 : decode cL_known 700 = .ok (.iconst 1, 1) := by decide +kernel
theorem dL_known_701 : decode cL_known 701 = .ok (.iconst 2, 1) := by decide +kernel
theorem dL_known_702 : decode cL_known 702 = .ok (.invokevirtual 25, 3) := by decide +kernel
theorem dL_known_705 : decode cL_known 705 = .ok (.ifCond .ne 118, 3) := by decide +kernel
theorem dL_known_708 : decode cL_known 708 = .ok (.aload_n 0, 1) := by decide +kernel
theorem dL_known_709 : decode cL_known 709 = .ok (.bipush 6, 2) := by decide +kernel
theorem dL_known_711 : decode cL_known 711 = .ok (.invokevirtual 13, 3) := by decide +kernel
theorem dL_known_714 : decode cL_known 714 = .ok (.iconst 2, 1) := by decide +kernel
theorem dL_known_715 : decode cL_known 715 = .ok (.if_icmp .ne 108, 3) := by decide +kernel
theorem dL_known_718 : decode cL_known 718 = .ok (.aload_n 0, 1) := by decide +kernel
theorem dL_known_719 : decode cL_known 719 = .ok (.iconst 0, 1) := by decide +kernel
theorem dL_known_720 : decode cL_known 720 = .ok (.iconst 1, 1) := by decide +kernel
theorem dL_known_721 : decode cL_known 721 = .ok (.invokevirtual 36, 3) := by decide +kernel
theorem dL_known_724 : decode cL_known 724 = .ok (.ifCond .ne 99, 3) := by decide +kernel
theorem dL_known_727 : decode cL_known 727 = .ok (.aload_n 0, 1) := by decide +kernel
theorem dL_known_728 : decode cL_known 728 = .ok (.iconst 1, 1) := by decide +kernel
theorem dL_known_729 : decode cL_known 729 = .ok (.iconst 0, 1) := by decide +kernel
theorem dL_known_730 : decode cL_known 730 = .ok (.invokevirtual 36, 3) := by decide +kernel
theorem dL_known_733 : decode cL_known 733 = .ok (.ifCond .ne 90, 3) := by decide +kernel
theorem dL_known_736 : decode cL_known 736 = .ok (.aload_n 0, 1) := by decide +kernel
theorem dL_known_737 : decode cL_known 737 = .ok (.iconst 1, 1) := by decide +kernel
theorem dL_known_738 : decode cL_known 738 = .ok (.iconst 1, 1) := by decide +kernel
theorem dL_known_739 : decode cL_known 739 = .ok (.invokevirtual 36, 3) := by decide +kernel
theorem dL_known_742 : decode cL_known 742 = .ok (.iconst 1, 1) := by decide +kernel
theorem dL_known_743 : decode cL_known 743 = .ok (.if_icmp .ne 80, 3) := by decide +kernel
theorem dL_known_746 : decode cL_known 746 = .ok (.aload_n 0, 1) := by decide +kernel
theorem dL_known_747 : decode cL_known 747 = .ok (.iconst 1, 1) := by decide +kernel
theorem dL_known_748 : decode cL_known 748 = .ok (.iconst 2, 1) := by decide +kernel
theorem dL_known_749 : decode cL_known 749 = .ok (.invokevirtual 36, 3) := by decide +kernel
theorem dL_known_752 : decode cL_known 752 = .ok (.iconst 1, 1) := by decide +kernel
