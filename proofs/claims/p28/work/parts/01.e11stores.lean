theorem dL_stores_609 : decode cL_stores 609 = .ok (.aload_n 0, 1) := by decide +kernel
theorem dL_stores_610 : decode cL_stores 610 = .ok (.iconst 5, 1) := by decide +kernel
theorem dL_stores_611 : decode cL_stores 611 = .ok (.invokevirtual 13, 3) := by decide +kernel
theorem dL_stores_614 : decode cL_stores 614 = .ok (.iload 14, 2) := by decide +kernel
theorem dL_stores_616 : decode cL_stores 616 = .ok (.ifCond .le 8, 3) := by decide +kernel
theorem dL_stores_619 : decode cL_stores 619 = .ok (.iload 12, 2) := by decide +kernel
theorem dL_stores_621 : decode cL_stores 621 = .ok (.goto 5, 3) := by decide +kernel
theorem dL_stores_624 : decode cL_stores 624 = .ok (.iload 11, 2) := by decide +kernel
theorem dL_stores_626 : decode cL_stores 626 = .ok (.if_icmp .ne 7, 3) := by decide +kernel
theorem dL_stores_629 : decode cL_stores 629 = .ok (.iconst 1, 1) := by decide +kernel
theorem dL_stores_630 : decode cL_stores 630 = .ok (.goto 4, 3) := by decide +kernel
theorem dL_stores_633 : decode cL_stores 633 = .ok (.iconst 0, 1) := by decide +kernel
theorem dL_stores_634 : decode cL_stores 634 = .ok (.ireturn, 1) := by decide +kernel
theorem dL_stores_635 : decode cL_stores 635 = .ok (.aload_n 0, 1) := by decide +kernel
theorem dL_stores_636 : decode cL_stores 636 = .ok (.bipush 9, 2) := by decide +kernel
theorem dL_stores_638 : decode cL_stores 638 = .ok (.invokevirtual 13, 3) := by decide +kernel
theorem dL_stores_641 : decode cL_stores 641 = .ok (.istore 10, 2) := by decide +kernel
theorem dL_stores_643 : decode cL_stores 643 = .ok (.aload_n 0, 1) := by decide +kernel
theorem dL_stores_644 : decode cL_stores 644 = .ok (.invokevirtual 82, 3) := by decide +kernel
theorem dL_stores_647 : decode cL_stores 647 = .ok (.istore 11, 2) := by decide +kernel
theorem dL_stores_649 : decode cL_stores 649 = .ok (.iload 10, 2) := by decide +kernel
theorem dL_stores_651 : decode cL_stores 651 = .ok (.ifCond .le 16, 3) := by decide +kernel
theorem dL_stores_654 : decode cL_stores 654 = .ok (.iload 11, 2) := by decide +kernel
theorem dL_stores_656 : decode cL_stores 656 = .ok (.bipush (-6), 2) := by decide +kernel
theorem dL_stores_658 : decode cL_stores 658 = .ok (.if_icmp .ne 7, 3) := by decide +kernel
theorem dL_stores_661 : decode cL_stores 661 = .ok (.iconst 1, 1) := by decide +kernel
theorem dL_stores_662 : decode cL_stores 662 = .ok (.goto 4, 3) := by decide +kernel
theorem dL_stores_665 : decode cL_stores 665 = .ok (.iconst 0, 1) := by decide +kernel
theorem dL_stores_666 : decode cL_stores 666 = .ok (.ireturn, 1) := by decide +kernel
theorem dL_stores_667 : decode cL_stores 667 = .ok (.iload 11, 2) := by decide +kernel
theorem dL_stores_669 : decode cL_stores 669 = .ok (.bipush (-5), 2) := by decide +kernel
theorem dL_stores_671 : decode cL_stores 671 = .ok (.if_icmp .ne 22, 3) := by decide +kernel
theorem dL_stores_674 : decode cL_stores 674 = .ok (.aload_n 0, 1) := by decide +kernel
theorem dL_stores_675 : decode cL_stores 675 = .ok (.bipush 6, 2) := by decide +kernel
theorem dL_stores_677 : decode cL_stores 677 = .ok (.invokevirtual 13, 3) := by decide +kernel
theorem dL_stores_680 : decode cL_stores 680 = .ok (.iload 8, 2) := by decide +kernel
theorem dL_stores_682 : decode cL_stores 682 = .ok (.if_icmp .ne 7, 3) := by decide +kernel
theorem dL_stores_685 : decode cL_stores 685 = .ok (.iconst 1, 1) := by decide +kernel
theorem dL_stores_686 : decode cL_stores 686 = .ok (.goto 39, 3) := by decide +kernel
theorem dL_stores_689 : decode cL_stores 689 = .ok (.iconst 0, 1) := by decide +kernel
theorem dL_stores_690 : decode cL_stores 690 = .ok (.goto 35, 3) := by decide +kernel
theorem dL_stores_693 : decode cL_stores 693 = .ok (.iload 11, 2) := by decide +kernel
theorem dL_stores_695 : decode cL_stores 695 = .ok (.sipush 1000, 3) := by decide +kernel
theorem dL_stores_698 : decode cL_stores 698 = .ok (.iload 8, 2) := by decide +kernel
theorem dL_stores_700 : decode cL_stores 700 = .ok (.iadd, 1) := by decide +kernel
theorem dL_stores_701 : decode cL_stores 701 = .ok (.aload_n 0, 1) := by decide +kernel
theorem dL_stores_702 : decode cL_stores 702 = .ok (.bipush 6, 2) := by decide +kernel
theorem dL_stores_704 : decode cL_stores 704 = .ok (.invokevirtual 13, 3) := by decide +kernel
theorem dL_stores_707 : decode cL_stores 707 = .ok (.isub, 1) := by decide +kernel
theorem dL_stores_708 : decode cL_stores 708 = .ok (.if_icmp .ne 16, 3) := by decide +kernel
theorem dL_stores_711 : decode cL_stores 711 = .ok (.aload_n 0, 1) := by decide +kernel
theorem dL_stores_712 : decode cL_stores 712 = .ok (.invokevirtual 82, 3) := by decide +kernel
theorem dL_stores_715 : decode cL_stores 715 = .ok (.bipush (-5), 2) := by decide +kernel
theorem dL_stores_717 : decode cL_stores 717 = .ok (.if_icmp .ne 7, 3) := by decide +kernel
theorem dL_stores_720 : decode cL_stores 720 = .ok (.iconst 1, 1) := by decide +kernel
theorem dL_stores_721 : decode cL_stores 721 = .ok (.goto 4, 3) := by decide +kernel
theorem dL_stores_724 : decode cL_stores 724 = .ok (.iconst 0, 1) := by decide +kernel
theorem dL_stores_725 : decode cL_stores 725 = .ok (.ireturn, 1) := by decide +kernel
