theorem dL_lines_549 : decode cL_lines 549 = .ok (.invokevirtual 32, 3) := by decide +kernel
theorem dL_lines_552 : decode cL_lines 552 = .ok (.ifCond .ne 97, 3) := by decide +kernel
theorem dL_lines_555 : decode cL_lines 555 = .ok (.aload_n 0, 1) := by decide +kernel
theorem dL_lines_556 : decode cL_lines 556 = .ok (.iconst 3, 1) := by decide +kernel
theorem dL_lines_557 : decode cL_lines 557 = .ok (.invokevirtual 32, 3) := by decide +kernel
theorem dL_lines_560 : decode cL_lines 560 = .ok (.ifCond .ne 89, 3) := by decide +kernel
theorem dL_lines_563 : decode cL_lines 563 = .ok (.aload_n 0, 1) := by decide +kernel
theorem dL_lines_564 : decode cL_lines 564 = .ok (.iconst 2, 1) := by decide +kernel
theorem dL_lines_565 : decode cL_lines 565 = .ok (.iconst 2, 1) := by decide +kernel
theorem dL_lines_566 : decode cL_lines 566 = .ok (.invokevirtual 19, 3) := by decide +kernel
theorem dL_lines_569 : decode cL_lines 569 = .ok (.ifCond .ne 80, 3) := by decide +kernel
theorem dL_lines_572 : decode cL_lines 572 = .ok (.aload_n 0, 1) := by decide +kernel
theorem dL_lines_573 : decode cL_lines 573 = .ok (.iconst 0, 1) := by decide +kernel
theorem dL_lines_574 : decode cL_lines 574 = .ok (.iconst 0, 1) := by decide +kernel
theorem dL_lines_575 : decode cL_lines 575 = .ok (.bipush 100, 2) := by decide +kernel
theorem dL_lines_577 : decode cL_lines 577 = .ok (.invokevirtual 38, 3) := by decide +kernel
theorem dL_lines_580 : decode cL_lines 580 = .ok (.ldc 102, 2) := by decide +kernel
theorem dL_lines_582 : decode cL_lines 582 = .ok (.if_icmp .ne 67, 3) := by decide +kernel
theorem dL_lines_585 : decode cL_lines 585 = .ok (.aload_n 0, 1) := by decide +kernel
theorem dL_lines_586 : decode cL_lines 586 = .ok (.sipush 1000, 3) := by decide +kernel
theorem dL_lines_589 : decode cL_lines 589 = .ok (.invokevirtual 46, 3) := by decide +kernel
theorem dL_lines_592 : decode cL_lines 592 = .ok (.iconst 1, 1) := by decide +kernel
theorem dL_lines_593 : decode cL_lines 593 = .ok (.if_icmp .ne 56, 3) := by decide +kernel
theorem dL_lines_596 : decode cL_lines 596 = .ok (.aload_n 0, 1) := by decide +kernel
theorem dL_lines_597 : decode cL_lines 597 = .ok (.iconst 0, 1) := by decide +kernel
theorem dL_lines_598 : decode cL_lines 598 = .ok (.iconst 4, 1) := by decide +kernel
theorem dL_lines_599 : decode cL_lines 599 = .ok (.invokevirtual 19, 3) := by decide +kernel
theorem dL_lines_602 : decode cL_lines 602 = .ok (.bipush 100, 2) := by decide +kernel
theorem dL_lines_604 : decode cL_lines 604 = .ok (.if_icmp .ne 45, 3) := by decide +kernel
theorem dL_lines_607 : decode cL_lines 607 = .ok (.aload_n 0, 1) := by decide +kernel
theorem dL_lines_608 : decode cL_lines 608 = .ok (.iconst 0, 1) := by decide +kernel
theorem dL_lines_609 : decode cL_lines 609 = .ok (.iconst 5, 1) := by decide +kernel
theorem dL_lines_610 : decode cL_lines 610 = .ok (.invokevirtual 19, 3) := by decide +kernel
theorem dL_lines_613 : decode cL_lines 613 = .ok (.sipush 900, 3) := by decide +kernel
theorem dL_lines_616 : decode cL_lines 616 = .ok (.if_icmp .ne 33, 3) := by decide +kernel
theorem dL_lines_619 : decode cL_lines 619 = .ok (.aload_n 0, 1) := by decide +kernel
theorem dL_lines_620 : decode cL_lines 620 = .ok (.iconst 1, 1) := by decide +kernel
theorem dL_lines_621 : decode cL_lines 621 = .ok (.invokevirtual 49, 3) := by decide +kernel
theorem dL_lines_624 : decode cL_lines 624 = .ok (.iconst 1, 1) := by decide +kernel
theorem dL_lines_625 : decode cL_lines 625 = .ok (.if_icmp .ne 24, 3) := by decide +kernel
theorem dL_lines_628 : decode cL_lines 628 = .ok (.aload_n 0, 1) := by decide +kernel
theorem dL_lines_629 : decode cL_lines 629 = .ok (.iconst 2, 1) := by decide +kernel
theorem dL_lines_630 : decode cL_lines 630 = .ok (.invokevirtual 23, 3) := by decide +kernel
theorem dL_lines_633 : decode cL_lines 633 = .ok (.bipush 100, 2) := by decide +kernel
theorem dL_lines_635 : decode cL_lines 635 = .ok (.if_icmp .ne 14, 3) := by decide +kernel
theorem dL_lines_638 : decode cL_lines 638 = .ok (.aload_n 0, 1) := by decide +kernel
theorem dL_lines_639 : decode cL_lines 639 = .ok (.iconst 4, 1) := by decide +kernel
theorem dL_lines_640 : decode cL_lines 640 = .ok (.invokevirtual 23, 3) := by decide +kernel
theorem dL_lines_643 : decode cL_lines 643 = .ok (.sipush 900, 3) := by decide +kernel
theorem dL_lines_646 : decode cL_lines 646 = .ok (.if_icmp .eq 5, 3) := by decide +kernel
theorem dL_lines_649 : decode cL_lines 649 = .ok (.iconst 0, 1) := by decide +kernel
theorem dL_lines_650 : decode cL_lines 650 = .ok (.ireturn, 1) := by decide +kernel
theorem dL_lines_651 : decode cL_lines 651 = .ok (.new 14, 3) := by decide +kernel
theorem dL_lines_654 : decode cL_lines 654 = .ok (.dup, 1) := by decide +kernel
theorem dL_lines_655 : decode cL_lines 655 = .ok (.invokespecial 79, 3) := by decide +kernel
theorem dL_lines_658 : decode cL_lines 658 = .ok (.astore_n 1, 1) := by decide +kernel
theorem dL_lines_659 : decode cL_lines 659 = .ok (.iconst 0, 1) := by decide +kernel
theorem dL_lines_660 : decode cL_lines 660 = .ok (.istore_n 2, 1) := by decide +kernel
theorem dL_lines_661 : decode cL_lines 661 = .ok (.iload_n 2, 1) := by decide +kernel
theorem dL_lines_662 : decode cL_lines 662 = .ok (.bipush 24, 2) := by decide +kernel
theorem dL_lines_664 : decode cL_lines 664 = .ok (.if_icmp .ge 22, 3) := by decide +kernel
theorem dL_lines_667 : decode cL_lines 667 = .ok (.aload_n 1, 1) := by decide +kernel
theorem dL_lines_668 : decode cL_lines 668 = .ok (.bipush 40, 2) := by decide +kernel
theorem dL_lines_670 : decode cL_lines 670 = .ok (.invokevirtual 49, 3) := by decide +kernel
theorem dL_lines_673 : decode cL_lines 673 = .ok (.bipush 40, 2) := by decide +kernel
theorem dL_lines_675 : decode cL_lines 675 = .ok (.if_icmp .eq 5, 3) := by decide +kernel
theorem dL_lines_678 : decode cL_lines 678 = .ok (.iconst 0, 1) := by decide +kernel
theorem dL_lines_679 : decode cL_lines 679 = .ok (.ireturn, 1) := by decide +kernel
theorem dL_lines_680 : decode cL_lines 680 = .ok (.iinc 2 1, 3) := by decide +kernel
theorem dL_lines_683 : decode cL_lines 683 = .ok (.goto (-22), 3) := by decide +kernel
theorem dL_lines_686 : decode cL_lines 686 = .ok (.aload_n 1, 1) := by decide +kernel
theorem dL_lines_687 : decode cL_lines 687 = .ok (.bipush 40, 2) := by decide +kernel
theorem dL_lines_689 : decode cL_lines 689 = .ok (.invokevirtual 49, 3) := by decide +kernel
theorem dL_lines_692 : decode cL_lines 692 = .ok (.ldc 103, 2) := by decide +kernel
theorem dL_lines_694 : decode cL_lines 694 = .ok (.if_icmp .ne 70, 3) := by decide +kernel
theorem dL_lines_697 : decode cL_lines 697 = .ok (.aload_n 1, 1) := by decide +kernel
theorem dL_lines_698 : decode cL_lines 698 = .ok (.bipush 39, 2) := by decide +kernel
theorem dL_lines_700 : decode cL_lines 700 = .ok (.invokevirtual 49, 3) := by decide +kernel
theorem dL_lines_703 : decode cL_lines 703 = .ok (.bipush 39, 2) := by decide +kernel
theorem dL_lines_705 : decode cL_lines 705 = .ok (.if_icmp .ne 59, 3) := by decide +kernel
theorem dL_lines_708 : decode cL_lines 708 = .ok (.aload_n 1, 1) := by decide +kernel
theorem dL_lines_709 : decode cL_lines 709 = .ok (.iconst 1, 1) := by decide +kernel
theorem dL_lines_710 : decode cL_lines 710 = .ok (.invokevirtual 13, 3) := by decide +kernel
theorem dL_lines_713 : decode cL_lines 713 = .ok (.sipush 999, 3) := by decide +kernel
theorem dL_lines_716 : decode cL_lines 716 = .ok (.if_icmp .ne 48, 3) := by decide +kernel
theorem dL_lines_719 : decode cL_lines 719 = .ok (.aload_n 1, 1) := by decide +kernel
theorem dL_lines_720 : decode cL_lines 720 = .ok (.iconst 1, 1) := by decide +kernel
theorem dL_lines_721 : decode cL_lines 721 = .ok (.invokevirtual 46, 3) := by decide +kernel
theorem dL_lines_724 : decode cL_lines 724 = .ok (.ldc 103, 2) := by decide +kernel
theorem dL_lines_726 : decode cL_lines 726 = .ok (.if_icmp .ne 38, 3) := by decide +kernel
theorem dL_lines_729 : decode cL_lines 729 = .ok (.aload_n 1, 1) := by decide +kernel
theorem dL_lines_730 : decode cL_lines 730 = .ok (.iconst (-1), 1) := by decide +kernel
theorem dL_lines_731 : decode cL_lines 731 = .ok (.invokevirtual 46, 3) := by decide +kernel
theorem dL_lines_734 : decode cL_lines 734 = .ok (.ldc 37, 2) := by decide +kernel
theorem dL_lines_736 : decode cL_lines 736 = .ok (.if_icmp .ne 28, 3) := by decide +kernel
theorem dL_lines_739 : decode cL_lines 739 = .ok (.aload_n 1, 1) := by decide +kernel
theorem dL_lines_740 : decode cL_lines 740 = .ok (.iconst 2, 1) := by decide +kernel
theorem dL_lines_741 : decode cL_lines 741 = .ok (.invokevirtual 13, 3) := by decide +kernel
theorem dL_lines_744 : decode cL_lines 744 = .ok (.bipush 16, 2) := by decide +kernel
theorem dL_lines_746 : decode cL_lines 746 = .ok (.if_icmp .ne 18, 3) := by decide +kernel
theorem dL_lines_749 : decode cL_lines 749 = .ok (.aload_n 1, 1) := by decide +kernel
theorem dL_lines_750 : decode cL_lines 750 = .ok (.iconst 4, 1) := by decide +kernel
theorem dL_lines_751 : decode cL_lines 751 = .ok (.invokevirtual 32, 3) := by decide +kernel
theorem dL_lines_754 : decode cL_lines 754 = .ok (.sipush 999, 3) := by decide +kernel
theorem dL_lines_757 : decode cL_lines 757 = .ok (.if_icmp .ne 7, 3) := by decide +kernel
theorem dL_lines_760 : decode cL_lines 760 = .ok (.iconst 1, 1) := by decide +kernel
theorem dL_lines_761 : decode cL_lines 761 = .ok (.goto 4, 3) := by decide +kernel
theorem dL_lines_764 : decode cL_lines 764 = .ok (.iconst 0, 1) := by decide +kernel
theorem dL_lines_765 : decode cL_lines 765 = .ok (.ireturn, 1) := by decide +kernel
