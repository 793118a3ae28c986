theorem dL_versions_577 : decode cL_versions 577 = .ok (.invokevirtual 19, 3) := by decide +kernel
theorem dL_versions_580 : decode cL_versions 580 = .ok (.iconst 2, 1) := by decide +kernel
theorem dL_versions_581 : decode cL_versions 581 = .ok (.irem, 1) := by decide +kernel
theorem dL_versions_582 : decode cL_versions 582 = .ok (.iconst 1, 1) := by decide +kernel
theorem dL_versions_583 : decode cL_versions 583 = .ok (.if_icmp .ne 42, 3) := by decide +kernel
theorem dL_versions_586 : decode cL_versions 586 = .ok (.aload_n 0, 1) := by decide +kernel
theorem dL_versions_587 : decode cL_versions 587 = .ok (.iload 8, 2) := by decide +kernel
theorem dL_versions_589 : decode cL_versions 589 = .ok (.iconst 5, 1) := by decide +kernel
theorem dL_versions_590 : decode cL_versions 590 = .ok (.invokevirtual 19, 3) := by decide +kernel
theorem dL_versions_593 : decode cL_versions 593 = .ok (.bipush 25, 2) := by decide +kernel
theorem dL_versions_595 : decode cL_versions 595 = .ok (.if_icmp .gt 30, 3) := by decide +kernel
theorem dL_versions_598 : decode cL_versions 598 = .ok (.iload 18, 2) := by decide +kernel
theorem dL_versions_600 : decode cL_versions 600 = .ok (.ifCond .ne 27, 3) := by decide +kernel
theorem dL_versions_603 : decode cL_versions 603 = .ok (.aload_n 0, 1) := by decide +kernel
theorem dL_versions_604 : decode cL_versions 604 = .ok (.iload 8, 2) := by decide +kernel
theorem dL_versions_606 : decode cL_versions 606 = .ok (.iconst 5, 1) := by decide +kernel
theorem dL_versions_607 : decode cL_versions 607 = .ok (.invokevirtual 19, 3) := by decide +kernel
theorem dL_versions_610 : decode cL_versions 610 = .ok (.iconst 1, 1) := by decide +kernel
theorem dL_versions_611 : decode cL_versions 611 = .ok (.iconst 2, 1) := by decide +kernel
theorem dL_versions_612 : decode cL_versions 612 = .ok (.aload_n 0, 1) := by decide +kernel
theorem dL_versions_613 : decode cL_versions 613 = .ok (.iload 8, 2) := by decide +kernel
theorem dL_versions_615 : decode cL_versions 615 = .ok (.iload 10, 2) := by decide +kernel
theorem dL_versions_617 : decode cL_versions 617 = .ok (.invokevirtual 38, 3) := by decide +kernel
theorem dL_versions_620 : decode cL_versions 620 = .ok (.imul, 1) := by decide +kernel
theorem dL_versions_621 : decode cL_versions 621 = .ok (.iadd, 1) := by decide +kernel
theorem dL_versions_622 : decode cL_versions 622 = .ok (.if_icmp .eq 5, 3) := by decide +kernel
theorem dL_versions_625 : decode cL_versions 625 = .ok (.iconst 0, 1) := by decide +kernel
theorem dL_versions_626 : decode cL_versions 626 = .ok (.ireturn, 1) := by decide +kernel
theorem dL_versions_627 : decode cL_versions 627 = .ok (.iload 9, 2) := by decide +kernel
theorem dL_versions_629 : decode cL_versions 629 = .ok (.iconst 1, 1) := by decide +kernel
theorem dL_versions_630 : decode cL_versions 630 = .ok (.if_icmp .ne 42, 3) := by decide +kernel
theorem dL_versions_633 : decode cL_versions 633 = .ok (.iload 12, 2) := by decide +kernel
theorem dL_versions_635 : decode cL_versions 635 = .ok (.ifCond .eq 76, 3) := by decide +kernel
theorem dL_versions_638 : decode cL_versions 638 = .ok (.aload_n 0, 1) := by decide +kernel
theorem dL_versions_639 : decode cL_versions 639 = .ok (.iload 8, 2) := by decide +kernel
theorem dL_versions_641 : decode cL_versions 641 = .ok (.iconst 0, 1) := by decide +kernel
theorem dL_versions_642 : decode cL_versions 642 = .ok (.invokevirtual 23, 3) := by decide +kernel
theorem dL_versions_645 : decode cL_versions 645 = .ok (.iconst (-1), 1) := by decide +kernel
theorem dL_versions_646 : decode cL_versions 646 = .ok (.if_icmp .ne 65, 3) := by decide +kernel
theorem dL_versions_649 : decode cL_versions 649 = .ok (.aload_n 0, 1) := by decide +kernel
theorem dL_versions_650 : decode cL_versions 650 = .ok (.iload 8, 2) := by decide +kernel
theorem dL_versions_652 : decode cL_versions 652 = .ok (.invokevirtual 41, 3) := by decide +kernel
theorem dL_versions_655 : decode cL_versions 655 = .ok (.iconst (-1), 1) := by decide +kernel
theorem dL_versions_656 : decode cL_versions 656 = .ok (.if_icmp .ne 55, 3) := by decide +kernel
theorem dL_versions_659 : decode cL_versions 659 = .ok (.aload_n 0, 1) := by decide +kernel
theorem dL_versions_660 : decode cL_versions 660 = .ok (.iload 8, 2) := by decide +kernel
theorem dL_versions_662 : decode cL_versions 662 = .ok (.invokevirtual 44, 3) := by decide +kernel
theorem dL_versions_665 : decode cL_versions 665 = .ok (.iconst (-1), 1) := by decide +kernel
theorem dL_versions_666 : decode cL_versions 666 = .ok (.if_icmp .eq 47, 3) := by decide +kernel
theorem dL_versions_669 : decode cL_versions 669 = .ok (.goto 42, 3) := by decide +kernel
theorem dL_versions_672 : decode cL_versions 672 = .ok (.aload_n 0, 1) := by decide +kernel
theorem dL_versions_673 : decode cL_versions 673 = .ok (.iload 8, 2) := by decide +kernel
theorem dL_versions_675 : decode cL_versions 675 = .ok (.bipush 11, 2) := by decide +kernel
theorem dL_versions_677 : decode cL_versions 677 = .ok (.invokevirtual 23, 3) := by decide +kernel
theorem dL_versions_680 : decode cL_versions 680 = .ok (.ifCond .ge 7, 3) := by decide +kernel
theorem dL_versions_683 : decode cL_versions 683 = .ok (.iconst 1, 1) := by decide +kernel
theorem dL_versions_684 : decode cL_versions 684 = .ok (.goto 4, 3) := by decide +kernel
theorem dL_versions_687 : decode cL_versions 687 = .ok (.iconst 0, 1) := by decide +kernel
theorem dL_versions_688 : decode cL_versions 688 = .ok (.iload 18, 2) := by decide +kernel
theorem dL_versions_690 : decode cL_versions 690 = .ok (.if_icmp .ne 21, 3) := by decide +kernel
theorem dL_versions_693 : decode cL_versions 693 = .ok (.iload 18, 2) := by decide +kernel
theorem dL_versions_695 : decode cL_versions 695 = .ok (.ifCond .eq 18, 3) := by decide +kernel
theorem dL_versions_698 : decode cL_versions 698 = .ok (.aload_n 0, 1) := by decide +kernel
theorem dL_versions_699 : decode cL_versions 699 = .ok (.iload 8, 2) := by decide +kernel
theorem dL_versions_701 : decode cL_versions 701 = .ok (.bipush 11, 2) := by decide +kernel
theorem dL_versions_703 : decode cL_versions 703 = .ok (.invokevirtual 23, 3) := by decide +kernel
theorem dL_versions_706 : decode cL_versions 706 = .ok (.bipush (-6), 2) := by decide +kernel
theorem dL_versions_708 : decode cL_versions 708 = .ok (.if_icmp .eq 5, 3) := by decide +kernel
theorem dL_versions_711 : decode cL_versions 711 = .ok (.iconst 0, 1) := by decide +kernel
theorem dL_versions_712 : decode cL_versions 712 = .ok (.ireturn, 1) := by decide +kernel
theorem dL_versions_713 : decode cL_versions 713 = .ok (.iinc 8 1, 3) := by decide +kernel
theorem dL_versions_716 : decode cL_versions 716 = .ok (.goto (-691), 3) := by decide +kernel
theorem dL_versions_719 : decode cL_versions 719 = .ok (.iconst 0, 1) := by decide +kernel
theorem dL_versions_720 : decode cL_versions 720 = .ok (.istore 8, 2) := by decide +kernel
theorem dL_versions_722 : decode cL_versions 722 = .ok (.iload 8, 2) := by decide +kernel
theorem dL_versions_724 : decode cL_versions 724 = .ok (.aload_n 0, 1) := by decide +kernel
theorem dL_versions_725 : decode cL_versions 725 = .ok (.iconst 4, 1) := by decide +kernel
theorem dL_versions_726 : decode cL_versions 726 = .ok (.invokevirtual 13, 3) := by decide +kernel
theorem dL_versions_729 : decode cL_versions 729 = .ok (.if_icmp .ge 40, 3) := by decide +kernel
theorem dL_versions_732 : decode cL_versions 732 = .ok (.aload_n 0, 1) := by decide +kernel
theorem dL_versions_733 : decode cL_versions 733 = .ok (.aload_n 0, 1) := by decide +kernel
theorem dL_versions_734 : decode cL_versions 734 = .ok (.iload 8, 2) := by decide +kernel
theorem dL_versions_736 : decode cL_versions 736 = .ok (.invokevirtual 26, 3) := by decide +kernel
theorem dL_versions_739 : decode cL_versions 739 = .ok (.iconst 0, 1) := by decide +kernel
theorem dL_versions_740 : decode cL_versions 740 = .ok (.invokevirtual 19, 3) := by decide +kernel
theorem dL_versions_743 : decode cL_versions 743 = .ok (.ifCond .ne 18, 3) := by decide +kernel
theorem dL_versions_746 : decode cL_versions 746 = .ok (.aload_n 0, 1) := by decide +kernel
theorem dL_versions_747 : decode cL_versions 747 = .ok (.aload_n 0, 1) := by decide +kernel
theorem dL_versions_748 : decode cL_versions 748 = .ok (.iload 8, 2) := by decide +kernel
theorem dL_versions_750 : decode cL_versions 750 = .ok (.invokevirtual 26, 3) := by decide +kernel
theorem dL_versions_753 : decode cL_versions 753 = .ok (.invokevirtual 41, 3) := by decide +kernel
theorem dL_versions_756 : decode cL_versions 756 = .ok (.bipush (-4), 2) := by decide +kernel
theorem dL_versions_758 : decode cL_versions 758 = .ok (.if_icmp .eq 5, 3) := by decide +kernel
theorem dL_versions_761 : decode cL_versions 761 = .ok (.iconst 0, 1) := by decide +kernel
theorem dL_versions_762 : decode cL_versions 762 = .ok (.ireturn, 1) := by decide +kernel
theorem dL_versions_763 : decode cL_versions 763 = .ok (.iinc 8 1, 3) := by decide +kernel
theorem dL_versions_766 : decode cL_versions 766 = .ok (.goto (-44), 3) := by decide +kernel
theorem dL_versions_769 : decode cL_versions 769 = .ok (.aload_n 0, 1) := by decide +kernel
theorem dL_versions_770 : decode cL_versions 770 = .ok (.iconst 1, 1) := by decide +kernel
theorem dL_versions_771 : decode cL_versions 771 = .ok (.invokevirtual 13, 3) := by decide +kernel
theorem dL_versions_774 : decode cL_versions 774 = .ok (.iload_n 2, 1) := by decide +kernel
theorem dL_versions_775 : decode cL_versions 775 = .ok (.if_icmp .ne 96, 3) := by decide +kernel
theorem dL_versions_778 : decode cL_versions 778 = .ok (.aload_n 0, 1) := by decide +kernel
theorem dL_versions_779 : decode cL_versions 779 = .ok (.iconst 2, 1) := by decide +kernel
theorem dL_versions_780 : decode cL_versions 780 = .ok (.invokevirtual 13, 3) := by decide +kernel
theorem dL_versions_783 : decode cL_versions 783 = .ok (.iload_n 3, 1) := by decide +kernel
theorem dL_versions_784 : decode cL_versions 784 = .ok (.if_icmp .ne 87, 3) := by decide +kernel
theorem dL_versions_787 : decode cL_versions 787 = .ok (.aload_n 0, 1) := by decide +kernel
theorem dL_versions_788 : decode cL_versions 788 = .ok (.iconst 3, 1) := by decide +kernel
theorem dL_versions_789 : decode cL_versions 789 = .ok (.invokevirtual 13, 3) := by decide +kernel
theorem dL_versions_792 : decode cL_versions 792 = .ok (.iload_n 1, 1) := by decide +kernel
theorem dL_versions_793 : decode cL_versions 793 = .ok (.iload_n 2, 1) := by decide +kernel
theorem dL_versions_794 : decode cL_versions 794 = .ok (.isub, 1) := by decide +kernel
theorem dL_versions_795 : decode cL_versions 795 = .ok (.iload_n 3, 1) := by decide +kernel
theorem dL_versions_796 : decode cL_versions 796 = .ok (.isub, 1) := by decide +kernel
theorem dL_versions_797 : decode cL_versions 797 = .ok (.if_icmp .ne 74, 3) := by decide +kernel
theorem dL_versions_800 : decode cL_versions 800 = .ok (.aload_n 0, 1) := by decide +kernel
theorem dL_versions_801 : decode cL_versions 801 = .ok (.bipush 6, 2) := by decide +kernel
theorem dL_versions_803 : decode cL_versions 803 = .ok (.invokevirtual 13, 3) := by decide +kernel
theorem dL_versions_806 : decode cL_versions 806 = .ok (.iload 4, 2) := by decide +kernel
theorem dL_versions_808 : decode cL_versions 808 = .ok (.if_icmp .ne 63, 3) := by decide +kernel
theorem dL_versions_811 : decode cL_versions 811 = .ok (.aload_n 0, 1) := by decide +kernel
theorem dL_versions_812 : decode cL_versions 812 = .ok (.bipush 7, 2) := by decide +kernel
theorem dL_versions_814 : decode cL_versions 814 = .ok (.invokevirtual 13, 3) := by decide +kernel
theorem dL_versions_817 : decode cL_versions 817 = .ok (.iload 5, 2) := by decide +kernel
theorem dL_versions_819 : decode cL_versions 819 = .ok (.if_icmp .ne 52, 3) := by decide +kernel
theorem dL_versions_822 : decode cL_versions 822 = .ok (.aload_n 0, 1) := by decide +kernel
theorem dL_versions_823 : decode cL_versions 823 = .ok (.bipush 8, 2) := by decide +kernel
theorem dL_versions_825 : decode cL_versions 825 = .ok (.invokevirtual 13, 3) := by decide +kernel
theorem dL_versions_828 : decode cL_versions 828 = .ok (.iload 6, 2) := by decide +kernel
theorem dL_versions_830 : decode cL_versions 830 = .ok (.if_icmp .ne 41, 3) := by decide +kernel
theorem dL_versions_833 : decode cL_versions 833 = .ok (.aload_n 0, 1) := by decide +kernel
theorem dL_versions_834 : decode cL_versions 834 = .ok (.bipush 9, 2) := by decide +kernel
theorem dL_versions_836 : decode cL_versions 836 = .ok (.invokevirtual 13, 3) := by decide +kernel
theorem dL_versions_839 : decode cL_versions 839 = .ok (.iload 7, 2) := by decide +kernel
theorem dL_versions_841 : decode cL_versions 841 = .ok (.if_icmp .ne 30, 3) := by decide +kernel
theorem dL_versions_844 : decode cL_versions 844 = .ok (.aload_n 0, 1) := by decide +kernel
theorem dL_versions_845 : decode cL_versions 845 = .ok (.iload_n 1, 1) := by decide +kernel
theorem dL_versions_846 : decode cL_versions 846 = .ok (.iconst 0, 1) := by decide +kernel
theorem dL_versions_847 : decode cL_versions 847 = .ok (.invokevirtual 19, 3) := by decide +kernel
theorem dL_versions_850 : decode cL_versions 850 = .ok (.iconst (-1), 1) := by decide +kernel
theorem dL_versions_851 : decode cL_versions 851 = .ok (.if_icmp .ne 20, 3) := by decide +kernel
theorem dL_versions_854 : decode cL_versions 854 = .ok (.aload_n 0, 1) := by decide +kernel
theorem dL_versions_855 : decode cL_versions 855 = .ok (.aload_n 0, 1) := by decide +kernel
theorem dL_versions_856 : decode cL_versions 856 = .ok (.iconst 4, 1) := by decide +kernel
theorem dL_versions_857 : decode cL_versions 857 = .ok (.invokevirtual 13, 3) := by decide +kernel
theorem dL_versions_860 : decode cL_versions 860 = .ok (.invokevirtual 26, 3) := by decide +kernel
theorem dL_versions_863 : decode cL_versions 863 = .ok (.iconst (-1), 1) := by decide +kernel
theorem dL_versions_864 : decode cL_versions 864 = .ok (.if_icmp .ne 7, 3) := by decide +kernel
theorem dL_versions_867 : decode cL_versions 867 = .ok (.iconst 1, 1) := by decide +kernel
theorem dL_versions_868 : decode cL_versions 868 = .ok (.goto 4, 3) := by decide +kernel
theorem dL_versions_871 : decode cL_versions 871 = .ok (.iconst 0, 1) := by decide +kernel
theorem dL_versions_872 : decode cL_versions 872 = .ok (.ireturn, 1) := by decide +kernel
