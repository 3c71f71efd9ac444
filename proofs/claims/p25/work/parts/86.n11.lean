/-! names of the law -/
theorem dL_ballots_570 : decode cL_ballots 570 = .ok (.istore 14, 2) := by decide +kernel
theorem dL_ballots_572 : decode cL_ballots 572 = .ok (.aload_n 0, 1) := by decide +kernel
theorem dL_ballots_573 : decode cL_ballots 573 = .ok (.iload 4, 2) := by decide +kernel
theorem dL_ballots_575 : decode cL_ballots 575 = .ok (.iconst 4, 1) := by decide +kernel
theorem dL_ballots_576 : decode cL_ballots 576 = .ok (.invokevirtual 35, 3) := by decide +kernel
theorem dL_ballots_579 : decode cL_ballots 579 = .ok (.istore 15, 2) := by decide +kernel
theorem dL_ballots_581 : decode cL_ballots 581 = .ok (.aload_n 0, 1) := by decide +kernel
theorem dL_ballots_582 : decode cL_ballots 582 = .ok (.iload_n 2, 1) := by decide +kernel
theorem dL_ballots_583 : decode cL_ballots 583 = .ok (.iload 4, 2) := by decide +kernel
theorem dL_ballots_585 : decode cL_ballots 585 = .ok (.iload_n 3, 1) := by decide +kernel
theorem dL_ballots_586 : decode cL_ballots 586 = .ok (.invokevirtual 55, 3) := by decide +kernel
theorem dL_ballots_589 : decode cL_ballots 589 = .ok (.istore 16, 2) := by decide +kernel
theorem dL_ballots_591 : decode cL_ballots 591 = .ok (.iload 12, 2) := by decide +kernel
theorem dL_ballots_593 : decode cL_ballots 593 = .ok (.ifCond .ne 16, 3) := by decide +kernel
theorem dL_ballots_596 : decode cL_ballots 596 = .ok (.iload 16, 2) := by decide +kernel
theorem dL_ballots_598 : decode cL_ballots 598 = .ok (.bipush (-4), 2) := by decide +kernel
theorem dL_ballots_600 : decode cL_ballots 600 = .ok (.if_icmp .ne 7, 3) := by decide +kernel
theorem dL_ballots_603 : decode cL_ballots 603 = .ok (.iconst 1, 1) := by decide +kernel
theorem dL_ballots_604 : decode cL_ballots 604 = .ok (.goto 4, 3) := by decide +kernel
theorem dL_ballots_607 : decode cL_ballots 607 = .ok (.iconst 0, 1) := by decide +kernel
theorem dL_ballots_608 : decode cL_ballots 608 = .ok (.ireturn, 1) := by decide +kernel
theorem dL_ballots_609 : decode cL_ballots 609 = .ok (.iload 13, 2) := by decide +kernel
theorem dL_ballots_611 : decode cL_ballots 611 = .ok (.iload 6, 2) := by decide +kernel
theorem dL_ballots_613 : decode cL_ballots 613 = .ok (.if_icmp .ne 16, 3) := by decide +kernel
theorem dL_ballots_616 : decode cL_ballots 616 = .ok (.iload 16, 2) := by decide +kernel
theorem dL_ballots_618 : decode cL_ballots 618 = .ok (.bipush (-5), 2) := by decide +kernel
theorem dL_ballots_620 : decode cL_ballots 620 = .ok (.if_icmp .ne 7, 3) := by decide +kernel
theorem dL_ballots_623 : decode cL_ballots 623 = .ok (.iconst 1, 1) := by decide +kernel
theorem dL_ballots_624 : decode cL_ballots 624 = .ok (.goto 4, 3) := by decide +kernel
theorem dL_ballots_627 : decode cL_ballots 627 = .ok (.iconst 0, 1) := by decide +kernel
theorem dL_ballots_628 : decode cL_ballots 628 = .ok (.ireturn, 1) := by decide +kernel
theorem dL_ballots_629 : decode cL_ballots 629 = .ok (.iload 6, 2) := by decide +kernel
theorem dL_ballots_631 : decode cL_ballots 631 = .ok (.iload 7, 2) := by decide +kernel
theorem dL_ballots_633 : decode cL_ballots 633 = .ok (.if_icmp .ge 43, 3) := by decide +kernel
theorem dL_ballots_636 : decode cL_ballots 636 = .ok (.iload 16, 2) := by decide +kernel
theorem dL_ballots_638 : decode cL_ballots 638 = .ok (.bipush 100, 2) := by decide +kernel
theorem dL_ballots_640 : decode cL_ballots 640 = .ok (.iload 7, 2) := by decide +kernel
theorem dL_ballots_642 : decode cL_ballots 642 = .ok (.iadd, 1) := by decide +kernel
theorem dL_ballots_643 : decode cL_ballots 643 = .ok (.if_icmp .ne 31, 3) := by decide +kernel
theorem dL_ballots_646 : decode cL_ballots 646 = .ok (.aload_n 0, 1) := by decide +kernel
theorem dL_ballots_647 : decode cL_ballots 647 = .ok (.iload_n 3, 1) := by decide +kernel
theorem dL_ballots_648 : decode cL_ballots 648 = .ok (.iload 4, 2) := by decide +kernel
theorem dL_ballots_650 : decode cL_ballots 650 = .ok (.iconst 0, 1) := by decide +kernel
theorem dL_ballots_651 : decode cL_ballots 651 = .ok (.invokevirtual 25, 3) := by decide +kernel
theorem dL_ballots_654 : decode cL_ballots 654 = .ok (.iload 13, 2) := by decide +kernel
theorem dL_ballots_656 : decode cL_ballots 656 = .ok (.if_icmp .ne 18, 3) := by decide +kernel
theorem dL_ballots_659 : decode cL_ballots 659 = .ok (.aload_n 0, 1) := by decide +kernel
theorem dL_ballots_660 : decode cL_ballots 660 = .ok (.iload_n 2, 1) := by decide +kernel
theorem dL_ballots_661 : decode cL_ballots 661 = .ok (.iconst 1, 1) := by decide +kernel
theorem dL_ballots_662 : decode cL_ballots 662 = .ok (.invokevirtual 29, 3) := by decide +kernel
theorem dL_ballots_665 : decode cL_ballots 665 = .ok (.iload 7, 2) := by decide +kernel
theorem dL_ballots_667 : decode cL_ballots 667 = .ok (.if_icmp .lt 7, 3) := by decide +kernel
theorem dL_ballots_670 : decode cL_ballots 670 = .ok (.iconst 1, 1) := by decide +kernel
theorem dL_ballots_671 : decode cL_ballots 671 = .ok (.goto 4, 3) := by decide +kernel
theorem dL_ballots_674 : decode cL_ballots 674 = .ok (.iconst 0, 1) := by decide +kernel
theorem dL_ballots_675 : decode cL_ballots 675 = .ok (.ireturn, 1) := by decide +kernel
theorem dL_ballots_676 : decode cL_ballots 676 = .ok (.iconst 0, 1) := by decide +kernel
theorem dL_ballots_677 : decode cL_ballots 677 = .ok (.istore 17, 2) := by decide +kernel
theorem dL_ballots_679 : decode cL_ballots 679 = .ok (.iconst 0, 1) := by decide +kernel
theorem dL_ballots_680 : decode cL_ballots 680 = .ok (.istore 18, 2) := by decide +kernel
theorem dL_ballots_682 : decode cL_ballots 682 = .ok (.iload 18, 2) := by decide +kernel
theorem dL_ballots_684 : decode cL_ballots 684 = .ok (.bipush 6, 2) := by decide +kernel
theorem dL_ballots_686 : decode cL_ballots 686 = .ok (.if_icmp .ge 44, 3) := by decide +kernel
theorem dL_ballots_689 : decode cL_ballots 689 = .ok (.iload 17, 2) := by decide +kernel
theorem dL_ballots_691 : decode cL_ballots 691 = .ok (.iload 11, 2) := by decide +kernel
theorem dL_ballots_693 : decode cL_ballots 693 = .ok (.iload 18, 2) := by decide +kernel
theorem dL_ballots_695 : decode cL_ballots 695 = .ok (.ishr, 1) := by decide +kernel
theorem dL_ballots_696 : decode cL_ballots 696 = .ok (.iconst 1, 1) := by decide +kernel
theorem dL_ballots_697 : decode cL_ballots 697 = .ok (.iand, 1) := by decide +kernel
theorem dL_ballots_698 : decode cL_ballots 698 = .ok (.iconst 1, 1) := by decide +kernel
theorem dL_ballots_699 : decode cL_ballots 699 = .ok (.if_icmp .ne 21, 3) := by decide +kernel
theorem dL_ballots_702 : decode cL_ballots 702 = .ok (.aload_n 0, 1) := by decide +kernel
theorem dL_ballots_703 : decode cL_ballots 703 = .ok (.iload 18, 2) := by decide +kernel
theorem dL_ballots_705 : decode cL_ballots 705 = .ok (.iload 4, 2) := by decide +kernel
theorem dL_ballots_707 : decode cL_ballots 707 = .ok (.iconst 0, 1) := by decide +kernel
theorem dL_ballots_708 : decode cL_ballots 708 = .ok (.invokevirtual 25, 3) := by decide +kernel
theorem dL_ballots_711 : decode cL_ballots 711 = .ok (.iload 6, 2) := by decide +kernel
theorem dL_ballots_713 : decode cL_ballots 713 = .ok (.if_icmp .ne 7, 3) := by decide +kernel
theorem dL_ballots_716 : decode cL_ballots 716 = .ok (.iconst 1, 1) := by decide +kernel
theorem dL_ballots_717 : decode cL_ballots 717 = .ok (.goto 4, 3) := by decide +kernel
theorem dL_ballots_720 : decode cL_ballots 720 = .ok (.iconst 0, 1) := by decide +kernel
theorem dL_ballots_721 : decode cL_ballots 721 = .ok (.iadd, 1) := by decide +kernel
theorem dL_ballots_722 : decode cL_ballots 722 = .ok (.istore 17, 2) := by decide +kernel
theorem dL_ballots_724 : decode cL_ballots 724 = .ok (.iinc 18 1, 3) := by decide +kernel
theorem dL_ballots_727 : decode cL_ballots 727 = .ok (.goto (-45), 3) := by decide +kernel
theorem dL_ballots_730 : decode cL_ballots 730 = .ok (.iload 16, 2) := by decide +kernel
theorem dL_ballots_732 : decode cL_ballots 732 = .ok (.iload 17, 2) := by decide +kernel
theorem dL_ballots_734 : decode cL_ballots 734 = .ok (.if_icmp .ne 78, 3) := by decide +kernel
theorem dL_ballots_737 : decode cL_ballots 737 = .ok (.aload_n 0, 1) := by decide +kernel
theorem dL_ballots_738 : decode cL_ballots 738 = .ok (.iload_n 3, 1) := by decide +kernel
theorem dL_ballots_739 : decode cL_ballots 739 = .ok (.iload 4, 2) := by decide +kernel
theorem dL_ballots_741 : decode cL_ballots 741 = .ok (.iconst 0, 1) := by decide +kernel
theorem dL_ballots_742 : decode cL_ballots 742 = .ok (.invokevirtual 25, 3) := by decide +kernel
theorem dL_ballots_745 : decode cL_ballots 745 = .ok (.iload 6, 2) := by decide +kernel
theorem dL_ballots_747 : decode cL_ballots 747 = .ok (.if_icmp .ne 65, 3) := by decide +kernel
theorem dL_ballots_750 : decode cL_ballots 750 = .ok (.aload_n 0, 1) := by decide +kernel
theorem dL_ballots_751 : decode cL_ballots 751 = .ok (.iload_n 3, 1) := by decide +kernel
theorem dL_ballots_752 : decode cL_ballots 752 = .ok (.iload 4, 2) := by decide +kernel
theorem dL_ballots_754 : decode cL_ballots 754 = .ok (.iconst 1, 1) := by decide +kernel
theorem dL_ballots_755 : decode cL_ballots 755 = .ok (.invokevirtual 25, 3) := by decide +kernel
theorem dL_ballots_758 : decode cL_ballots 758 = .ok (.iload 10, 2) := by decide +kernel
theorem dL_ballots_760 : decode cL_ballots 760 = .ok (.if_icmp .ne 52, 3) := by decide +kernel
theorem dL_ballots_763 : decode cL_ballots 763 = .ok (.aload_n 0, 1) := by decide +kernel
theorem dL_ballots_764 : decode cL_ballots 764 = .ok (.iload_n 3, 1) := by decide +kernel
theorem dL_ballots_765 : decode cL_ballots 765 = .ok (.iconst 1, 1) := by decide +kernel
theorem dL_ballots_766 : decode cL_ballots 766 = .ok (.invokevirtual 19, 3) := by decide +kernel
theorem dL_ballots_769 : decode cL_ballots 769 = .ok (.iload 6, 2) := by decide +kernel
theorem dL_ballots_771 : decode cL_ballots 771 = .ok (.if_icmp .ne 41, 3) := by decide +kernel
theorem dL_ballots_774 : decode cL_ballots 774 = .ok (.aload_n 0, 1) := by decide +kernel
theorem dL_ballots_775 : decode cL_ballots 775 = .ok (.iload 4, 2) := by decide +kernel
