/-! the law: its bytes, read, 4 of 4 -/
theorem d_L_law_668 : decode code 668 = .ok (.iconst 0, 1) := by decide +kernel
theorem d_L_law_669 : decode code 669 = .ok (.ireturn, 1) := by decide +kernel
theorem d_L_law_670 : decode code 670 = .ok (.iload 5, 2) := by decide +kernel
theorem d_L_law_672 : decode code 672 = .ok (.ifCond .ne 15, 3) := by decide +kernel
theorem d_L_law_675 : decode code 675 = .ok (.aload_n 3, 1) := by decide +kernel
theorem d_L_law_676 : decode code 676 = .ok (.iconst 0, 1) := by decide +kernel
theorem d_L_law_677 : decode code 677 = .ok (.laload, 1) := by decide +kernel
theorem d_L_law_678 : decode code 678 = .ok (.iload 6, 2) := by decide +kernel
theorem d_L_law_680 : decode code 680 = .ok (.i2l, 1) := by decide +kernel
theorem d_L_law_681 : decode code 681 = .ok (.lcmp, 1) := by decide +kernel
theorem d_L_law_682 : decode code 682 = .ok (.ifCond .eq 5, 3) := by decide +kernel
theorem d_L_law_685 : decode code 685 = .ok (.iconst 0, 1) := by decide +kernel
theorem d_L_law_686 : decode code 686 = .ok (.ireturn, 1) := by decide +kernel
theorem d_L_law_687 : decode code 687 = .ok (.goto 170, 3) := by decide +kernel
theorem d_L_law_690 : decode code 690 = .ok (.aload_n 1, 1) := by decide +kernel
theorem d_L_law_691 : decode code 691 = .ok (.aload_n 0, 1) := by decide +kernel
theorem d_L_law_692 : decode code 692 = .ok (.iload 4, 2) := by decide +kernel
theorem d_L_law_694 : decode code 694 = .ok (.iconst 1, 1) := by decide +kernel
theorem d_L_law_695 : decode code 695 = .ok (.iadd, 1) := by decide +kernel
theorem d_L_law_696 : decode code 696 = .ok (.iaload, 1) := by decide +kernel
theorem d_L_law_697 : decode code 697 = .ok (.aload_n 3, 1) := by decide +kernel
theorem d_L_law_698 : decode code 698 = .ok (.invokestatic 110, 3) := by decide +kernel
theorem d_L_law_701 : decode code 701 = .ok (.istore 5, 2) := by decide +kernel
theorem d_L_law_703 : decode code 703 = .ok (.aload_n 2, 1) := by decide +kernel
theorem d_L_law_704 : decode code 704 = .ok (.aload_n 0, 1) := by decide +kernel
theorem d_L_law_705 : decode code 705 = .ok (.iload 4, 2) := by decide +kernel
theorem d_L_law_707 : decode code 707 = .ok (.iconst 1, 1) := by decide +kernel
theorem d_L_law_708 : decode code 708 = .ok (.iadd, 1) := by decide +kernel
theorem d_L_law_709 : decode code 709 = .ok (.iaload, 1) := by decide +kernel
theorem d_L_law_710 : decode code 710 = .ok (.invokevirtual 112, 3) := by decide +kernel
theorem d_L_law_713 : decode code 713 = .ok (.istore 6, 2) := by decide +kernel
theorem d_L_law_715 : decode code 715 = .ok (.aload_n 2, 1) := by decide +kernel
theorem d_L_law_716 : decode code 716 = .ok (.invokevirtual 70, 3) := by decide +kernel
theorem d_L_law_719 : decode code 719 = .ok (.iload 5, 2) := by decide +kernel
theorem d_L_law_721 : decode code 721 = .ok (.if_icmp .eq 5, 3) := by decide +kernel
theorem d_L_law_724 : decode code 724 = .ok (.iconst 0, 1) := by decide +kernel
theorem d_L_law_725 : decode code 725 = .ok (.ireturn, 1) := by decide +kernel
theorem d_L_law_726 : decode code 726 = .ok (.iload 5, 2) := by decide +kernel
theorem d_L_law_728 : decode code 728 = .ok (.ifCond .ne 15, 3) := by decide +kernel
theorem d_L_law_731 : decode code 731 = .ok (.aload_n 3, 1) := by decide +kernel
theorem d_L_law_732 : decode code 732 = .ok (.iconst 0, 1) := by decide +kernel
theorem d_L_law_733 : decode code 733 = .ok (.laload, 1) := by decide +kernel
theorem d_L_law_734 : decode code 734 = .ok (.iload 6, 2) := by decide +kernel
theorem d_L_law_736 : decode code 736 = .ok (.i2l, 1) := by decide +kernel
theorem d_L_law_737 : decode code 737 = .ok (.lcmp, 1) := by decide +kernel
theorem d_L_law_738 : decode code 738 = .ok (.ifCond .eq 5, 3) := by decide +kernel
theorem d_L_law_741 : decode code 741 = .ok (.iconst 0, 1) := by decide +kernel
theorem d_L_law_742 : decode code 742 = .ok (.ireturn, 1) := by decide +kernel
theorem d_L_law_743 : decode code 743 = .ok (.goto 114, 3) := by decide +kernel
theorem d_L_law_746 : decode code 746 = .ok (.aload_n 1, 1) := by decide +kernel
theorem d_L_law_747 : decode code 747 = .ok (.aload_n 0, 1) := by decide +kernel
theorem d_L_law_748 : decode code 748 = .ok (.iload 4, 2) := by decide +kernel
theorem d_L_law_750 : decode code 750 = .ok (.iconst 1, 1) := by decide +kernel
theorem d_L_law_751 : decode code 751 = .ok (.iadd, 1) := by decide +kernel
theorem d_L_law_752 : decode code 752 = .ok (.iaload, 1) := by decide +kernel
theorem d_L_law_753 : decode code 753 = .ok (.aload_n 3, 1) := by decide +kernel
theorem d_L_law_754 : decode code 754 = .ok (.invokestatic 113, 3) := by decide +kernel
theorem d_L_law_757 : decode code 757 = .ok (.istore 5, 2) := by decide +kernel
theorem d_L_law_759 : decode code 759 = .ok (.aload_n 2, 1) := by decide +kernel
theorem d_L_law_760 : decode code 760 = .ok (.aload_n 0, 1) := by decide +kernel
theorem d_L_law_761 : decode code 761 = .ok (.iload 4, 2) := by decide +kernel
theorem d_L_law_763 : decode code 763 = .ok (.iconst 1, 1) := by decide +kernel
theorem d_L_law_764 : decode code 764 = .ok (.iadd, 1) := by decide +kernel
theorem d_L_law_765 : decode code 765 = .ok (.iaload, 1) := by decide +kernel
theorem d_L_law_766 : decode code 766 = .ok (.invokevirtual 115, 3) := by decide +kernel
theorem d_L_law_769 : decode code 769 = .ok (.istore 6, 2) := by decide +kernel
theorem d_L_law_771 : decode code 771 = .ok (.aload_n 2, 1) := by decide +kernel
theorem d_L_law_772 : decode code 772 = .ok (.invokevirtual 70, 3) := by decide +kernel
theorem d_L_law_775 : decode code 775 = .ok (.iload 5, 2) := by decide +kernel
theorem d_L_law_777 : decode code 777 = .ok (.if_icmp .eq 5, 3) := by decide +kernel
theorem d_L_law_780 : decode code 780 = .ok (.iconst 0, 1) := by decide +kernel
theorem d_L_law_781 : decode code 781 = .ok (.ireturn, 1) := by decide +kernel
theorem d_L_law_782 : decode code 782 = .ok (.iload 5, 2) := by decide +kernel
theorem d_L_law_784 : decode code 784 = .ok (.ifCond .ne 15, 3) := by decide +kernel
theorem d_L_law_787 : decode code 787 = .ok (.aload_n 3, 1) := by decide +kernel
theorem d_L_law_788 : decode code 788 = .ok (.iconst 0, 1) := by decide +kernel
theorem d_L_law_789 : decode code 789 = .ok (.laload, 1) := by decide +kernel
theorem d_L_law_790 : decode code 790 = .ok (.iload 6, 2) := by decide +kernel
theorem d_L_law_792 : decode code 792 = .ok (.i2l, 1) := by decide +kernel
theorem d_L_law_793 : decode code 793 = .ok (.lcmp, 1) := by decide +kernel
theorem d_L_law_794 : decode code 794 = .ok (.ifCond .eq 5, 3) := by decide +kernel
theorem d_L_law_797 : decode code 797 = .ok (.iconst 0, 1) := by decide +kernel
theorem d_L_law_798 : decode code 798 = .ok (.ireturn, 1) := by decide +kernel
theorem d_L_law_799 : decode code 799 = .ok (.goto 58, 3) := by decide +kernel
theorem d_L_law_802 : decode code 802 = .ok (.aload_n 1, 1) := by decide +kernel
theorem d_L_law_803 : decode code 803 = .ok (.aload_n 0, 1) := by decide +kernel
theorem d_L_law_804 : decode code 804 = .ok (.iload 4, 2) := by decide +kernel
theorem d_L_law_806 : decode code 806 = .ok (.iconst 1, 1) := by decide +kernel
theorem d_L_law_807 : decode code 807 = .ok (.iadd, 1) := by decide +kernel
theorem d_L_law_808 : decode code 808 = .ok (.iaload, 1) := by decide +kernel
theorem d_L_law_809 : decode code 809 = .ok (.aload_n 3, 1) := by decide +kernel
theorem d_L_law_810 : decode code 810 = .ok (.invokestatic 116, 3) := by decide +kernel
theorem d_L_law_813 : decode code 813 = .ok (.istore 5, 2) := by decide +kernel
theorem d_L_law_815 : decode code 815 = .ok (.aload_n 2, 1) := by decide +kernel
theorem d_L_law_816 : decode code 816 = .ok (.aload_n 0, 1) := by decide +kernel
theorem d_L_law_817 : decode code 817 = .ok (.iload 4, 2) := by decide +kernel
theorem d_L_law_819 : decode code 819 = .ok (.iconst 1, 1) := by decide +kernel
theorem d_L_law_820 : decode code 820 = .ok (.iadd, 1) := by decide +kernel
theorem d_L_law_821 : decode code 821 = .ok (.iaload, 1) := by decide +kernel
theorem d_L_law_822 : decode code 822 = .ok (.invokevirtual 118, 3) := by decide +kernel
theorem d_L_law_825 : decode code 825 = .ok (.lstore 6, 2) := by decide +kernel
theorem d_L_law_827 : decode code 827 = .ok (.aload_n 2, 1) := by decide +kernel
theorem d_L_law_828 : decode code 828 = .ok (.invokevirtual 70, 3) := by decide +kernel
theorem d_L_law_831 : decode code 831 = .ok (.iload 5, 2) := by decide +kernel
theorem d_L_law_833 : decode code 833 = .ok (.if_icmp .eq 5, 3) := by decide +kernel
theorem d_L_law_836 : decode code 836 = .ok (.iconst 0, 1) := by decide +kernel
theorem d_L_law_837 : decode code 837 = .ok (.ireturn, 1) := by decide +kernel
theorem d_L_law_838 : decode code 838 = .ok (.iload 5, 2) := by decide +kernel
theorem d_L_law_840 : decode code 840 = .ok (.ifCond .ne 14, 3) := by decide +kernel
theorem d_L_law_843 : decode code 843 = .ok (.aload_n 3, 1) := by decide +kernel
theorem d_L_law_844 : decode code 844 = .ok (.iconst 0, 1) := by decide +kernel
theorem d_L_law_845 : decode code 845 = .ok (.laload, 1) := by decide +kernel
theorem d_L_law_846 : decode code 846 = .ok (.lload 6, 2) := by decide +kernel
theorem d_L_law_848 : decode code 848 = .ok (.lcmp, 1) := by decide +kernel
theorem d_L_law_849 : decode code 849 = .ok (.ifCond .eq 5, 3) := by decide +kernel
theorem d_L_law_852 : decode code 852 = .ok (.iconst 0, 1) := by decide +kernel
theorem d_L_law_853 : decode code 853 = .ok (.ireturn, 1) := by decide +kernel
theorem d_L_law_854 : decode code 854 = .ok (.goto 3, 3) := by decide +kernel
theorem d_L_law_857 : decode code 857 = .ok (.iinc 4 3, 3) := by decide +kernel
theorem d_L_law_860 : decode code 860 = .ok (.goto (-837), 3) := by decide +kernel
theorem d_L_law_863 : decode code 863 = .ok (.iconst 1, 1) := by decide +kernel
theorem d_L_law_864 : decode code 864 = .ok (.ireturn, 1) := by decide +kernel
