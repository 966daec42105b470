theorem d_L_law_564 : decode code 564 = .ok (.if_icmp .eq 302, 3) := by decide +kernel
theorem d_L_law_567 : decode code 567 = .ok (.iconst 0, 1) := by decide +kernel
theorem d_L_law_568 : decode code 568 = .ok (.ireturn, 1) := by decide +kernel
theorem d_L_law_569 : decode code 569 = .ok (.aload_n 1, 1) := by decide +kernel
theorem d_L_law_570 : decode code 570 = .ok (.aload_n 0, 1) := by decide +kernel
theorem d_L_law_571 : decode code 571 = .ok (.iload 4, 2) := by decide +kernel
theorem d_L_law_573 : decode code 573 = .ok (.iconst 1, 1) := by decide +kernel
theorem d_L_law_574 : decode code 574 = .ok (.iadd, 1) := by decide +kernel
theorem d_L_law_575 : decode code 575 = .ok (.iaload, 1) := by decide +kernel
theorem d_L_law_576 : decode code 576 = .ok (.aload_n 0, 1) := by decide +kernel
theorem d_L_law_577 : decode code 577 = .ok (.iload 4, 2) := by decide +kernel
theorem d_L_law_579 : decode code 579 = .ok (.iconst 2, 1) := by decide +kernel
theorem d_L_law_580 : decode code 580 = .ok (.iadd, 1) := by decide +kernel
theorem d_L_law_581 : decode code 581 = .ok (.iaload, 1) := by decide +kernel
theorem d_L_law_582 : decode code 582 = .ok (.aload_n 3, 1) := by decide +kernel
theorem d_L_law_583 : decode code 583 = .ok (.invokestatic 74, 3) := by decide +kernel
theorem d_L_law_586 : decode code 586 = .ok (.istore 5, 2) := by decide +kernel
theorem d_L_law_588 : decode code 588 = .ok (.aload_n 2, 1) := by decide +kernel
theorem d_L_law_589 : decode code 589 = .ok (.aload_n 0, 1) := by decide +kernel
theorem d_L_law_590 : decode code 590 = .ok (.iload 4, 2) := by decide +kernel
theorem d_L_law_592 : decode code 592 = .ok (.iconst 1, 1) := by decide +kernel
theorem d_L_law_593 : decode code 593 = .ok (.iadd, 1) := by decide +kernel
theorem d_L_law_594 : decode code 594 = .ok (.iaload, 1) := by decide +kernel
theorem d_L_law_595 : decode code 595 = .ok (.aload_n 0, 1) := by decide +kernel
theorem d_L_law_596 : decode code 596 = .ok (.iload 4, 2) := by decide +kernel
theorem d_L_law_598 : decode code 598 = .ok (.iconst 2, 1) := by decide +kernel
theorem d_L_law_599 : decode code 599 = .ok (.iadd, 1) := by decide +kernel
theorem d_L_law_600 : decode code 600 = .ok (.iaload, 1) := by decide +kernel
theorem d_L_law_601 : decode code 601 = .ok (.invokevirtual 76, 3) := by decide +kernel
theorem d_L_law_604 : decode code 604 = .ok (.istore 6, 2) := by decide +kernel
theorem d_L_law_606 : decode code 606 = .ok (.aload_n 2, 1) := by decide +kernel
theorem d_L_law_607 : decode code 607 = .ok (.invokevirtual 50, 3) := by decide +kernel
theorem d_L_law_610 : decode code 610 = .ok (.iload 5, 2) := by decide +kernel
theorem d_L_law_612 : decode code 612 = .ok (.if_icmp .eq 5, 3) := by decide +kernel
theorem d_L_law_615 : decode code 615 = .ok (.iconst 0, 1) := by decide +kernel
theorem d_L_law_616 : decode code 616 = .ok (.ireturn, 1) := by decide +kernel
theorem d_L_law_617 : decode code 617 = .ok (.iload 5, 2) := by decide +kernel
theorem d_L_law_619 : decode code 619 = .ok (.ifCond .ne 15, 3) := by decide +kernel
theorem d_L_law_622 : decode code 622 = .ok (.aload_n 3, 1) := by decide +kernel
theorem d_L_law_623 : decode code 623 = .ok (.iconst 0, 1) := by decide +kernel
theorem d_L_law_624 : decode code 624 = .ok (.laload, 1) := by decide +kernel
theorem d_L_law_625 : decode code 625 = .ok (.iload 6, 2) := by decide +kernel
theorem d_L_law_627 : decode code 627 = .ok (.i2l, 1) := by decide +kernel
theorem d_L_law_628 : decode code 628 = .ok (.lcmp, 1) := by decide +kernel
theorem d_L_law_629 : decode code 629 = .ok (.ifCond .eq 5, 3) := by decide +kernel
theorem d_L_law_632 : decode code 632 = .ok (.iconst 0, 1) := by decide +kernel
theorem d_L_law_633 : decode code 633 = .ok (.ireturn, 1) := by decide +kernel
theorem d_L_law_634 : decode code 634 = .ok (.goto 232, 3) := by decide +kernel
theorem d_L_law_637 : decode code 637 = .ok (.aload_n 1, 1) := by decide +kernel
theorem d_L_law_638 : decode code 638 = .ok (.aload_n 0, 1) := by decide +kernel
theorem d_L_law_639 : decode code 639 = .ok (.iload 4, 2) := by decide +kernel
theorem d_L_law_641 : decode code 641 = .ok (.iconst 1, 1) := by decide +kernel
theorem d_L_law_642 : decode code 642 = .ok (.iadd, 1) := by decide +kernel
theorem d_L_law_643 : decode code 643 = .ok (.iaload, 1) := by decide +kernel
theorem d_L_law_644 : decode code 644 = .ok (.invokevirtual 77, 3) := by decide +kernel
theorem d_L_law_647 : decode code 647 = .ok (.aload_n 2, 1) := by decide +kernel
theorem d_L_law_648 : decode code 648 = .ok (.aload_n 0, 1) := by decide +kernel
theorem d_L_law_649 : decode code 649 = .ok (.iload 4, 2) := by decide +kernel
theorem d_L_law_651 : decode code 651 = .ok (.iconst 1, 1) := by decide +kernel
theorem d_L_law_652 : decode code 652 = .ok (.iadd, 1) := by decide +kernel
theorem d_L_law_653 : decode code 653 = .ok (.iaload, 1) := by decide +kernel
theorem d_L_law_654 : decode code 654 = .ok (.invokevirtual 80, 3) := by decide +kernel
theorem d_L_law_657 : decode code 657 = .ok (.if_icmp .eq 209, 3) := by decide +kernel
theorem d_L_law_660 : decode code 660 = .ok (.iconst 0, 1) := by decide +kernel
theorem d_L_law_661 : decode code 661 = .ok (.ireturn, 1) := by decide +kernel
theorem d_L_law_662 : decode code 662 = .ok (.aload_n 1, 1) := by decide +kernel
theorem d_L_law_663 : decode code 663 = .ok (.aload_n 0, 1) := by decide +kernel
theorem d_L_law_664 : decode code 664 = .ok (.iload 4, 2) := by decide +kernel
theorem d_L_law_666 : decode code 666 = .ok (.iconst 1, 1) := by decide +kernel
theorem d_L_law_667 : decode code 667 = .ok (.iadd, 1) := by decide +kernel
theorem d_L_law_668 : decode code 668 = .ok (.iaload, 1) := by decide +kernel
theorem d_L_law_669 : decode code 669 = .ok (.aload_n 0, 1) := by decide +kernel
theorem d_L_law_670 : decode code 670 = .ok (.iload 4, 2) := by decide +kernel
theorem d_L_law_672 : decode code 672 = .ok (.iconst 2, 1) := by decide +kernel
theorem d_L_law_673 : decode code 673 = .ok (.iadd, 1) := by decide +kernel
theorem d_L_law_674 : decode code 674 = .ok (.iaload, 1) := by decide +kernel
theorem d_L_law_675 : decode code 675 = .ok (.aload_n 3, 1) := by decide +kernel
theorem d_L_law_676 : decode code 676 = .ok (.invokestatic 81, 3) := by decide +kernel
theorem d_L_law_679 : decode code 679 = .ok (.istore 5, 2) := by decide +kernel
theorem d_L_law_681 : decode code 681 = .ok (.aload_n 2, 1) := by decide +kernel
theorem d_L_law_682 : decode code 682 = .ok (.aload_n 0, 1) := by decide +kernel
theorem d_L_law_683 : decode code 683 = .ok (.iload 4, 2) := by decide +kernel
theorem d_L_law_685 : decode code 685 = .ok (.iconst 1, 1) := by decide +kernel
theorem d_L_law_686 : decode code 686 = .ok (.iadd, 1) := by decide +kernel
theorem d_L_law_687 : decode code 687 = .ok (.iaload, 1) := by decide +kernel
theorem d_L_law_688 : decode code 688 = .ok (.aload_n 0, 1) := by decide +kernel
theorem d_L_law_689 : decode code 689 = .ok (.iload 4, 2) := by decide +kernel
theorem d_L_law_691 : decode code 691 = .ok (.iconst 2, 1) := by decide +kernel
theorem d_L_law_692 : decode code 692 = .ok (.iadd, 1) := by decide +kernel
theorem d_L_law_693 : decode code 693 = .ok (.iaload, 1) := by decide +kernel
theorem d_L_law_694 : decode code 694 = .ok (.invokevirtual 83, 3) := by decide +kernel
theorem d_L_law_697 : decode code 697 = .ok (.istore 6, 2) := by decide +kernel
theorem d_L_law_699 : decode code 699 = .ok (.aload_n 2, 1) := by decide +kernel
theorem d_L_law_700 : decode code 700 = .ok (.invokevirtual 50, 3) := by decide +kernel
theorem d_L_law_703 : decode code 703 = .ok (.iload 5, 2) := by decide +kernel
theorem d_L_law_705 : decode code 705 = .ok (.if_icmp .eq 5, 3) := by decide +kernel
theorem d_L_law_708 : decode code 708 = .ok (.iconst 0, 1) := by decide +kernel
theorem d_L_law_709 : decode code 709 = .ok (.ireturn, 1) := by decide +kernel
theorem d_L_law_710 : decode code 710 = .ok (.iload 5, 2) := by decide +kernel
theorem d_L_law_712 : decode code 712 = .ok (.ifCond .ne 15, 3) := by decide +kernel
theorem d_L_law_715 : decode code 715 = .ok (.aload_n 3, 1) := by decide +kernel
theorem d_L_law_716 : decode code 716 = .ok (.iconst 0, 1) := by decide +kernel
theorem d_L_law_717 : decode code 717 = .ok (.laload, 1) := by decide +kernel
theorem d_L_law_718 : decode code 718 = .ok (.iload 6, 2) := by decide +kernel
theorem d_L_law_720 : decode code 720 = .ok (.i2l, 1) := by decide +kernel
theorem d_L_law_721 : decode code 721 = .ok (.lcmp, 1) := by decide +kernel
theorem d_L_law_722 : decode code 722 = .ok (.ifCond .eq 5, 3) := by decide +kernel
theorem d_L_law_725 : decode code 725 = .ok (.iconst 0, 1) := by decide +kernel
theorem d_L_law_726 : decode code 726 = .ok (.ireturn, 1) := by decide +kernel
theorem d_L_law_727 : decode code 727 = .ok (.goto 139, 3) := by decide +kernel
theorem d_L_law_730 : decode code 730 = .ok (.aload_n 1, 1) := by decide +kernel
theorem d_L_law_731 : decode code 731 = .ok (.aload_n 0, 1) := by decide +kernel
theorem d_L_law_732 : decode code 732 = .ok (.iload 4, 2) := by decide +kernel
theorem d_L_law_734 : decode code 734 = .ok (.iconst 1, 1) := by decide +kernel
theorem d_L_law_735 : decode code 735 = .ok (.iadd, 1) := by decide +kernel
theorem d_L_law_736 : decode code 736 = .ok (.iaload, 1) := by decide +kernel
theorem d_L_law_737 : decode code 737 = .ok (.aload_n 0, 1) := by decide +kernel
theorem d_L_law_738 : decode code 738 = .ok (.iload 4, 2) := by decide +kernel
theorem d_L_law_740 : decode code 740 = .ok (.iconst 2, 1) := by decide +kernel
theorem d_L_law_741 : decode code 741 = .ok (.iadd, 1) := by decide +kernel
theorem d_L_law_742 : decode code 742 = .ok (.iaload, 1) := by decide +kernel
theorem d_L_law_743 : decode code 743 = .ok (.invokevirtual 84, 3) := by decide +kernel
theorem d_L_law_746 : decode code 746 = .ok (.aload_n 2, 1) := by decide +kernel
theorem d_L_law_747 : decode code 747 = .ok (.aload_n 0, 1) := by decide +kernel
theorem d_L_law_748 : decode code 748 = .ok (.iload 4, 2) := by decide +kernel
theorem d_L_law_750 : decode code 750 = .ok (.iconst 1, 1) := by decide +kernel
theorem d_L_law_751 : decode code 751 = .ok (.iadd, 1) := by decide +kernel
theorem d_L_law_752 : decode code 752 = .ok (.iaload, 1) := by decide +kernel
theorem d_L_law_753 : decode code 753 = .ok (.aload_n 0, 1) := by decide +kernel
theorem d_L_law_754 : decode code 754 = .ok (.iload 4, 2) := by decide +kernel
theorem d_L_law_756 : decode code 756 = .ok (.iconst 2, 1) := by decide +kernel
theorem d_L_law_757 : decode code 757 = .ok (.iadd, 1) := by decide +kernel
theorem d_L_law_758 : decode code 758 = .ok (.iaload, 1) := by decide +kernel
theorem d_L_law_759 : decode code 759 = .ok (.invokevirtual 87, 3) := by decide +kernel
theorem d_L_law_762 : decode code 762 = .ok (.if_icmp .eq 104, 3) := by decide +kernel
theorem d_L_law_765 : decode code 765 = .ok (.iconst 0, 1) := by decide +kernel
theorem d_L_law_766 : decode code 766 = .ok (.ireturn, 1) := by decide +kernel
theorem d_L_law_767 : decode code 767 = .ok (.aload_n 1, 1) := by decide +kernel
theorem d_L_law_768 : decode code 768 = .ok (.aload_n 0, 1) := by decide +kernel
theorem d_L_law_769 : decode code 769 = .ok (.iload 4, 2) := by decide +kernel
theorem d_L_law_771 : decode code 771 = .ok (.iconst 1, 1) := by decide +kernel
theorem d_L_law_772 : decode code 772 = .ok (.iadd, 1) := by decide +kernel
theorem d_L_law_773 : decode code 773 = .ok (.iaload, 1) := by decide +kernel
theorem d_L_law_774 : decode code 774 = .ok (.aload_n 0, 1) := by decide +kernel
theorem d_L_law_775 : decode code 775 = .ok (.iload 4, 2) := by decide +kernel
theorem d_L_law_777 : decode code 777 = .ok (.iconst 2, 1) := by decide +kernel
theorem d_L_law_778 : decode code 778 = .ok (.iadd, 1) := by decide +kernel
theorem d_L_law_779 : decode code 779 = .ok (.iaload, 1) := by decide +kernel
theorem d_L_law_780 : decode code 780 = .ok (.invokevirtual 88, 3) := by decide +kernel
theorem d_L_law_783 : decode code 783 = .ok (.aload_n 2, 1) := by decide +kernel
theorem d_L_law_784 : decode code 784 = .ok (.aload_n 0, 1) := by decide +kernel
theorem d_L_law_785 : decode code 785 = .ok (.iload 4, 2) := by decide +kernel
theorem d_L_law_787 : decode code 787 = .ok (.iconst 1, 1) := by decide +kernel
theorem d_L_law_788 : decode code 788 = .ok (.iadd, 1) := by decide +kernel
theorem d_L_law_789 : decode code 789 = .ok (.iaload, 1) := by decide +kernel
theorem d_L_law_790 : decode code 790 = .ok (.aload_n 0, 1) := by decide +kernel
theorem d_L_law_791 : decode code 791 = .ok (.iload 4, 2) := by decide +kernel
theorem d_L_law_793 : decode code 793 = .ok (.iconst 2, 1) := by decide +kernel
theorem d_L_law_794 : decode code 794 = .ok (.iadd, 1) := by decide +kernel
theorem d_L_law_795 : decode code 795 = .ok (.iaload, 1) := by decide +kernel
theorem d_L_law_796 : decode code 796 = .ok (.invokevirtual 91, 3) := by decide +kernel
theorem d_L_law_799 : decode code 799 = .ok (.if_icmp .eq 67, 3) := by decide +kernel
theorem d_L_law_802 : decode code 802 = .ok (.iconst 0, 1) := by decide +kernel
theorem d_L_law_803 : decode code 803 = .ok (.ireturn, 1) := by decide +kernel
theorem d_L_law_804 : decode code 804 = .ok (.aload_n 1, 1) := by decide +kernel
theorem d_L_law_805 : decode code 805 = .ok (.aload_n 0, 1) := by decide +kernel
theorem d_L_law_806 : decode code 806 = .ok (.iload 4, 2) := by decide +kernel
theorem d_L_law_808 : decode code 808 = .ok (.iconst 1, 1) := by decide +kernel
theorem d_L_law_809 : decode code 809 = .ok (.iadd, 1) := by decide +kernel
theorem d_L_law_810 : decode code 810 = .ok (.iaload, 1) := by decide +kernel
theorem d_L_law_811 : decode code 811 = .ok (.aload_n 0, 1) := by decide +kernel
theorem d_L_law_812 : decode code 812 = .ok (.iload 4, 2) := by decide +kernel
theorem d_L_law_814 : decode code 814 = .ok (.iconst 2, 1) := by decide +kernel
theorem d_L_law_815 : decode code 815 = .ok (.iadd, 1) := by decide +kernel
theorem d_L_law_816 : decode code 816 = .ok (.iaload, 1) := by decide +kernel
theorem d_L_law_817 : decode code 817 = .ok (.invokevirtual 92, 3) := by decide +kernel
theorem d_L_law_820 : decode code 820 = .ok (.aload_n 2, 1) := by decide +kernel
theorem d_L_law_821 : decode code 821 = .ok (.aload_n 0, 1) := by decide +kernel
theorem d_L_law_822 : decode code 822 = .ok (.iload 4, 2) := by decide +kernel
theorem d_L_law_824 : decode code 824 = .ok (.iconst 1, 1) := by decide +kernel
theorem d_L_law_825 : decode code 825 = .ok (.iadd, 1) := by decide +kernel
theorem d_L_law_826 : decode code 826 = .ok (.iaload, 1) := by decide +kernel
theorem d_L_law_827 : decode code 827 = .ok (.aload_n 0, 1) := by decide +kernel
theorem d_L_law_828 : decode code 828 = .ok (.iload 4, 2) := by decide +kernel
theorem d_L_law_830 : decode code 830 = .ok (.iconst 2, 1) := by decide +kernel
theorem d_L_law_831 : decode code 831 = .ok (.iadd, 1) := by decide +kernel
theorem d_L_law_832 : decode code 832 = .ok (.iaload, 1) := by decide +kernel
theorem d_L_law_833 : decode code 833 = .ok (.invokevirtual 95, 3) := by decide +kernel
theorem d_L_law_836 : decode code 836 = .ok (.if_icmp .eq 30, 3) := by decide +kernel
theorem d_L_law_839 : decode code 839 = .ok (.iconst 0, 1) := by decide +kernel
theorem d_L_law_840 : decode code 840 = .ok (.ireturn, 1) := by decide +kernel
theorem d_L_law_841 : decode code 841 = .ok (.aload_n 1, 1) := by decide +kernel
theorem d_L_law_842 : decode code 842 = .ok (.aload_n 0, 1) := by decide +kernel
theorem d_L_law_843 : decode code 843 = .ok (.iload 4, 2) := by decide +kernel
theorem d_L_law_845 : decode code 845 = .ok (.iconst 1, 1) := by decide +kernel
theorem d_L_law_846 : decode code 846 = .ok (.iadd, 1) := by decide +kernel
theorem d_L_law_847 : decode code 847 = .ok (.iaload, 1) := by decide +kernel
theorem d_L_law_848 : decode code 848 = .ok (.invokevirtual 96, 3) := by decide +kernel
theorem d_L_law_851 : decode code 851 = .ok (.aload_n 2, 1) := by decide +kernel
theorem d_L_law_852 : decode code 852 = .ok (.aload_n 0, 1) := by decide +kernel
theorem d_L_law_853 : decode code 853 = .ok (.iload 4, 2) := by decide +kernel
theorem d_L_law_855 : decode code 855 = .ok (.iconst 1, 1) := by decide +kernel
theorem d_L_law_856 : decode code 856 = .ok (.iadd, 1) := by decide +kernel
theorem d_L_law_857 : decode code 857 = .ok (.iaload, 1) := by decide +kernel
theorem d_L_law_858 : decode code 858 = .ok (.invokevirtual 99, 3) := by decide +kernel
theorem d_L_law_861 : decode code 861 = .ok (.if_icmp .eq 5, 3) := by decide +kernel
theorem d_L_law_864 : decode code 864 = .ok (.iconst 0, 1) := by decide +kernel
theorem d_L_law_865 : decode code 865 = .ok (.ireturn, 1) := by decide +kernel
theorem d_L_law_866 : decode code 866 = .ok (.iinc 4 5, 3) := by decide +kernel
theorem d_L_law_869 : decode code 869 = .ok (.goto (-846), 3) := by decide +kernel
theorem d_L_law_872 : decode code 872 = .ok (.iconst 1, 1) := by decide +kernel
theorem d_L_law_873 : decode code 873 = .ok (.ireturn, 1) := by decide +kernel
theorem d_L_claimed_0 : decode method_3_code 0 = .ok (.aload_n 3, 1) := by decide +kernel
theorem d_L_claimed_1 : decode method_3_code 1 = .ok (.iconst 0, 1) := by decide +kernel
theorem d_L_claimed_2 : decode method_3_code 2 = .ok (.aload_n 0, 1) := by decide +kernel
theorem d_L_claimed_3 : decode method_3_code 3 = .ok (.iload_n 1, 1) := by decide +kernel
theorem d_L_claimed_4 : decode method_3_code 4 = .ok (.iload_n 2, 1) := by decide +kernel
theorem d_L_claimed_5 : decode method_3_code 5 = .ok (.invokevirtual 7, 3) := by decide +kernel
theorem d_L_claimed_8 : decode method_3_code 8 = .ok (.i2l, 1) := by decide +kernel
theorem d_L_claimed_9 : decode method_3_code 9 = .ok (.lastore, 1) := by decide +kernel
theorem d_L_claimed_10 : decode method_3_code 10 = .ok (.goto 7, 3) := by decide +kernel
theorem d_L_claimed_13 : decode method_3_code 13 = .ok (.astore 4, 2) := by decide +kernel
theorem d_L_claimed_15 : decode method_3_code 15 = .ok (.iconst 1, 1) := by decide +kernel
theorem d_L_claimed_16 : decode method_3_code 16 = .ok (.ireturn, 1) := by decide +kernel
theorem d_L_claimed_17 : decode method_3_code 17 = .ok (.iconst 0, 1) := by decide +kernel
theorem d_L_claimed_18 : decode method_3_code 18 = .ok (.ireturn, 1) := by decide +kernel
theorem d_L_volume_0 : decode method_4_code 0 = .ok (.aload_n 3, 1) := by decide +kernel
theorem d_L_volume_1 : decode method_4_code 1 = .ok (.iconst 0, 1) := by decide +kernel
theorem d_L_volume_2 : decode method_4_code 2 = .ok (.aload_n 0, 1) := by decide +kernel
theorem d_L_volume_3 : decode method_4_code 3 = .ok (.iload_n 1, 1) := by decide +kernel
theorem d_L_volume_4 : decode method_4_code 4 = .ok (.iload_n 2, 1) := by decide +kernel
theorem d_L_volume_5 : decode method_4_code 5 = .ok (.invokevirtual 15, 3) := by decide +kernel
theorem d_L_volume_8 : decode method_4_code 8 = .ok (.i2l, 1) := by decide +kernel
theorem d_L_volume_9 : decode method_4_code 9 = .ok (.lastore, 1) := by decide +kernel
theorem d_L_volume_10 : decode method_4_code 10 = .ok (.goto 7, 3) := by decide +kernel
theorem d_L_volume_13 : decode method_4_code 13 = .ok (.astore 4, 2) := by decide +kernel
theorem d_L_volume_15 : decode method_4_code 15 = .ok (.iconst 1, 1) := by decide +kernel
theorem d_L_volume_16 : decode method_4_code 16 = .ok (.ireturn, 1) := by decide +kernel
theorem d_L_volume_17 : decode method_4_code 17 = .ok (.iconst 0, 1) := by decide +kernel
theorem d_L_volume_18 : decode method_4_code 18 = .ok (.ireturn, 1) := by decide +kernel
theorem d_L_row_0 : decode method_5_code 0 = .ok (.aload_n 3, 1) := by decide +kernel
theorem d_L_row_1 : decode method_5_code 1 = .ok (.iconst 0, 1) := by decide +kernel
theorem d_L_row_2 : decode method_5_code 2 = .ok (.aload_n 0, 1) := by decide +kernel
theorem d_L_row_3 : decode method_5_code 3 = .ok (.iload_n 1, 1) := by decide +kernel
theorem d_L_row_4 : decode method_5_code 4 = .ok (.iload_n 2, 1) := by decide +kernel
theorem d_L_row_5 : decode method_5_code 5 = .ok (.invokevirtual 18, 3) := by decide +kernel
theorem d_L_row_8 : decode method_5_code 8 = .ok (.i2l, 1) := by decide +kernel
theorem d_L_row_9 : decode method_5_code 9 = .ok (.lastore, 1) := by decide +kernel
theorem d_L_row_10 : decode method_5_code 10 = .ok (.goto 7, 3) := by decide +kernel
theorem d_L_row_13 : decode method_5_code 13 = .ok (.astore 4, 2) := by decide +kernel
theorem d_L_row_15 : decode method_5_code 15 = .ok (.iconst 1, 1) := by decide +kernel
theorem d_L_row_16 : decode method_5_code 16 = .ok (.ireturn, 1) := by decide +kernel
theorem d_L_row_17 : decode method_5_code 17 = .ok (.iconst 0, 1) := by decide +kernel
theorem d_L_row_18 : decode method_5_code 18 = .ok (.ireturn, 1) := by decide +kernel
