/-! ===== the law's instructions ===== -/
theorem dL_law_676 : decode cL_law 676 = .ok (.iconst 1, 1) := by decide +kernel
theorem dL_law_677 : decode cL_law 677 = .ok (.goto 4, 3) := by decide +kernel
theorem dL_law_680 : decode cL_law 680 = .ok (.iconst 0, 1) := by decide +kernel
theorem dL_law_681 : decode cL_law 681 = .ok (.if_icmp .eq 5, 3) := by decide +kernel
theorem dL_law_684 : decode cL_law 684 = .ok (.iconst 0, 1) := by decide +kernel
theorem dL_law_685 : decode cL_law 685 = .ok (.ireturn, 1) := by decide +kernel
theorem dL_law_686 : decode cL_law 686 = .ok (.iconst 0, 1) := by decide +kernel
theorem dL_law_687 : decode cL_law 687 = .ok (.istore 11, 2) := by decide +kernel
theorem dL_law_689 : decode cL_law 689 = .ok (.iload 11, 2) := by decide +kernel
theorem dL_law_691 : decode cL_law 691 = .ok (.aload_n 2, 1) := by decide +kernel
theorem dL_law_692 : decode cL_law 692 = .ok (.bipush 9, 2) := by decide +kernel
theorem dL_law_694 : decode cL_law 694 = .ok (.iload 9, 2) := by decide +kernel
theorem dL_law_696 : decode cL_law 696 = .ok (.iadd, 1) := by decide +kernel
theorem dL_law_697 : decode cL_law 697 = .ok (.iaload, 1) := by decide +kernel
theorem dL_law_698 : decode cL_law 698 = .ok (.if_icmp .ge 61, 3) := by decide +kernel
theorem dL_law_701 : decode cL_law 701 = .ok (.iconst 0, 1) := by decide +kernel
theorem dL_law_702 : decode cL_law 702 = .ok (.istore 12, 2) := by decide +kernel
theorem dL_law_704 : decode cL_law 704 = .ok (.iload 12, 2) := by decide +kernel
theorem dL_law_706 : decode cL_law 706 = .ok (.iload 4, 2) := by decide +kernel
theorem dL_law_708 : decode cL_law 708 = .ok (.if_icmp .ge 45, 3) := by decide +kernel
theorem dL_law_711 : decode cL_law 711 = .ok (.aload_n 1, 1) := by decide +kernel
theorem dL_law_712 : decode cL_law 712 = .ok (.iload 9, 2) := by decide +kernel
theorem dL_law_714 : decode cL_law 714 = .ok (.iload 11, 2) := by decide +kernel
theorem dL_law_716 : decode cL_law 716 = .ok (.iload 12, 2) := by decide +kernel
theorem dL_law_718 : decode cL_law 718 = .ok (.invokevirtual 60, 3) := by decide +kernel
theorem dL_law_721 : decode cL_law 721 = .ok (.iload 10, 2) := by decide +kernel
theorem dL_law_723 : decode cL_law 723 = .ok (.ifCond .eq 17, 3) := by decide +kernel
theorem dL_law_726 : decode cL_law 726 = .ok (.aload 7, 2) := by decide +kernel
theorem dL_law_728 : decode cL_law 728 = .ok (.iload 4, 2) := by decide +kernel
theorem dL_law_730 : decode cL_law 730 = .ok (.iload 11, 2) := by decide +kernel
theorem dL_law_732 : decode cL_law 732 = .ok (.imul, 1) := by decide +kernel
theorem dL_law_733 : decode cL_law 733 = .ok (.iload 12, 2) := by decide +kernel
theorem dL_law_735 : decode cL_law 735 = .ok (.iadd, 1) := by decide +kernel
theorem dL_law_736 : decode cL_law 736 = .ok (.iaload, 1) := by decide +kernel
theorem dL_law_737 : decode cL_law 737 = .ok (.goto 5, 3) := by decide +kernel
theorem dL_law_740 : decode cL_law 740 = .ok (.bipush (-9), 2) := by decide +kernel
theorem dL_law_742 : decode cL_law 742 = .ok (.if_icmp .eq 5, 3) := by decide +kernel
theorem dL_law_745 : decode cL_law 745 = .ok (.iconst 0, 1) := by decide +kernel
theorem dL_law_746 : decode cL_law 746 = .ok (.ireturn, 1) := by decide +kernel
theorem dL_law_747 : decode cL_law 747 = .ok (.iinc 12 1, 3) := by decide +kernel
theorem dL_law_750 : decode cL_law 750 = .ok (.goto (-46), 3) := by decide +kernel
theorem dL_law_753 : decode cL_law 753 = .ok (.iinc 11 1, 3) := by decide +kernel
theorem dL_law_756 : decode cL_law 756 = .ok (.goto (-67), 3) := by decide +kernel
theorem dL_law_759 : decode cL_law 759 = .ok (.iinc 9 1, 3) := by decide +kernel
theorem dL_law_762 : decode cL_law 762 = .ok (.goto (-530), 3) := by decide +kernel
theorem dL_law_765 : decode cL_law 765 = .ok (.iinc 8 1, 3) := by decide +kernel
theorem dL_law_768 : decode cL_law 768 = .ok (.goto (-545), 3) := by decide +kernel
theorem dL_law_771 : decode cL_law 771 = .ok (.iconst 0, 1) := by decide +kernel
theorem dL_law_772 : decode cL_law 772 = .ok (.istore 8, 2) := by decide +kernel
theorem dL_law_774 : decode cL_law 774 = .ok (.iload 8, 2) := by decide +kernel
theorem dL_law_776 : decode cL_law 776 = .ok (.iconst 4, 1) := by decide +kernel
theorem dL_law_777 : decode cL_law 777 = .ok (.if_icmp .ge 429, 3) := by decide +kernel
theorem dL_law_780 : decode cL_law 780 = .ok (.aload_n 0, 1) := by decide +kernel
theorem dL_law_781 : decode cL_law 781 = .ok (.bipush 9, 2) := by decide +kernel
theorem dL_law_783 : decode cL_law 783 = .ok (.iload 8, 2) := by decide +kernel
theorem dL_law_785 : decode cL_law 785 = .ok (.iadd, 1) := by decide +kernel
theorem dL_law_786 : decode cL_law 786 = .ok (.invokestatic 9, 3) := by decide +kernel
theorem dL_law_789 : decode cL_law 789 = .ok (.istore 9, 2) := by decide +kernel
theorem dL_law_791 : decode cL_law 791 = .ok (.iconst 1, 1) := by decide +kernel
theorem dL_law_792 : decode cL_law 792 = .ok (.iload 9, 2) := by decide +kernel
theorem dL_law_794 : decode cL_law 794 = .ok (.bipush 6, 2) := by decide +kernel
theorem dL_law_796 : decode cL_law 796 = .ok (.invokestatic 15, 3) := by decide +kernel
theorem dL_law_799 : decode cL_law 799 = .ok (.iadd, 1) := by decide +kernel
theorem dL_law_800 : decode cL_law 800 = .ok (.istore 10, 2) := by decide +kernel
theorem dL_law_802 : decode cL_law 802 = .ok (.iload 9, 2) := by decide +kernel
theorem dL_law_804 : decode cL_law 804 = .ok (.iconst 3, 1) := by decide +kernel
theorem dL_law_805 : decode cL_law 805 = .ok (.ishr, 1) := by decide +kernel
theorem dL_law_806 : decode cL_law 806 = .ok (.aload_n 2, 1) := by decide +kernel
theorem dL_law_807 : decode cL_law 807 = .ok (.iconst 1, 1) := by decide +kernel
theorem dL_law_808 : decode cL_law 808 = .ok (.iaload, 1) := by decide +kernel
theorem dL_law_809 : decode cL_law 809 = .ok (.invokestatic 15, 3) := by decide +kernel
theorem dL_law_812 : decode cL_law 812 = .ok (.istore 11, 2) := by decide +kernel
theorem dL_law_814 : decode cL_law 814 = .ok (.iload 9, 2) := by decide +kernel
theorem dL_law_816 : decode cL_law 816 = .ok (.iconst 5, 1) := by decide +kernel
theorem dL_law_817 : decode cL_law 817 = .ok (.ishr, 1) := by decide +kernel
theorem dL_law_818 : decode cL_law 818 = .ok (.iconst 2, 1) := by decide +kernel
theorem dL_law_819 : decode cL_law 819 = .ok (.invokestatic 15, 3) := by decide +kernel
theorem dL_law_822 : decode cL_law 822 = .ok (.ifCond .ne 17, 3) := by decide +kernel
theorem dL_law_825 : decode cL_law 825 = .ok (.aload_n 1, 1) := by decide +kernel
theorem dL_law_826 : decode cL_law 826 = .ok (.iload 11, 2) := by decide +kernel
theorem dL_law_828 : decode cL_law 828 = .ok (.invokevirtual 57, 3) := by decide +kernel
theorem dL_law_831 : decode cL_law 831 = .ok (.iconst 1, 1) := by decide +kernel
theorem dL_law_832 : decode cL_law 832 = .ok (.if_icmp .ne 7, 3) := by decide +kernel
theorem dL_law_835 : decode cL_law 835 = .ok (.iconst 1, 1) := by decide +kernel
theorem dL_law_836 : decode cL_law 836 = .ok (.goto 4, 3) := by decide +kernel
theorem dL_law_839 : decode cL_law 839 = .ok (.iconst 0, 1) := by decide +kernel
theorem dL_law_840 : decode cL_law 840 = .ok (.istore 12, 2) := by decide +kernel
theorem dL_law_842 : decode cL_law 842 = .ok (.iload 12, 2) := by decide +kernel
theorem dL_law_844 : decode cL_law 844 = .ok (.ifCond .eq 12, 3) := by decide +kernel
theorem dL_law_847 : decode cL_law 847 = .ok (.aload_n 2, 1) := by decide +kernel
theorem dL_law_848 : decode cL_law 848 = .ok (.bipush 9, 2) := by decide +kernel
theorem dL_law_850 : decode cL_law 850 = .ok (.iload 11, 2) := by decide +kernel
theorem dL_law_852 : decode cL_law 852 = .ok (.iadd, 1) := by decide +kernel
theorem dL_law_853 : decode cL_law 853 = .ok (.iaload, 1) := by decide +kernel
theorem dL_law_854 : decode cL_law 854 = .ok (.istore 10, 2) := by decide +kernel
theorem dL_law_856 : decode cL_law 856 = .ok (.aload_n 1, 1) := by decide +kernel
theorem dL_law_857 : decode cL_law 857 = .ok (.iconst 1, 1) := by decide +kernel
theorem dL_law_858 : decode cL_law 858 = .ok (.iconst 1, 1) := by decide +kernel
theorem dL_law_859 : decode cL_law 859 = .ok (.bipush 30, 2) := by decide +kernel
theorem dL_law_861 : decode cL_law 861 = .ok (.invokevirtual 19, 3) := by decide +kernel
theorem dL_law_864 : decode cL_law 864 = .ok (.iconst 1, 1) := by decide +kernel
theorem dL_law_865 : decode cL_law 865 = .ok (.if_icmp .eq 5, 3) := by decide +kernel
theorem dL_law_868 : decode cL_law 868 = .ok (.iconst 0, 1) := by decide +kernel
theorem dL_law_869 : decode cL_law 869 = .ok (.ireturn, 1) := by decide +kernel
theorem dL_law_870 : decode cL_law 870 = .ok (.iconst 0, 1) := by decide +kernel
theorem dL_law_871 : decode cL_law 871 = .ok (.istore 13, 2) := by decide +kernel
theorem dL_law_873 : decode cL_law 873 = .ok (.iload 13, 2) := by decide +kernel
theorem dL_law_875 : decode cL_law 875 = .ok (.iload 10, 2) := by decide +kernel
theorem dL_law_877 : decode cL_law 877 = .ok (.if_icmp .ge 157, 3) := by decide +kernel
theorem dL_law_880 : decode cL_law 880 = .ok (.iconst 0, 1) := by decide +kernel
theorem dL_law_881 : decode cL_law 881 = .ok (.istore 14, 2) := by decide +kernel
theorem dL_law_883 : decode cL_law 883 = .ok (.iload 14, 2) := by decide +kernel
theorem dL_law_885 : decode cL_law 885 = .ok (.iload 4, 2) := by decide +kernel
theorem dL_law_887 : decode cL_law 887 = .ok (.if_icmp .ge 141, 3) := by decide +kernel
theorem dL_law_890 : decode cL_law 890 = .ok (.aload 6, 2) := by decide +kernel
theorem dL_law_892 : decode cL_law 892 = .ok (.iload 4, 2) := by decide +kernel
theorem dL_law_894 : decode cL_law 894 = .ok (.iload 13, 2) := by decide +kernel
theorem dL_law_896 : decode cL_law 896 = .ok (.imul, 1) := by decide +kernel
theorem dL_law_897 : decode cL_law 897 = .ok (.iload 14, 2) := by decide +kernel
theorem dL_law_899 : decode cL_law 899 = .ok (.iadd, 1) := by decide +kernel
theorem dL_law_900 : decode cL_law 900 = .ok (.iload 12, 2) := by decide +kernel
theorem dL_law_902 : decode cL_law 902 = .ok (.ifCond .eq 16, 3) := by decide +kernel
theorem dL_law_905 : decode cL_law 905 = .ok (.aload_n 1, 1) := by decide +kernel
theorem dL_law_906 : decode cL_law 906 = .ok (.iload 11, 2) := by decide +kernel
theorem dL_law_908 : decode cL_law 908 = .ok (.iload 13, 2) := by decide +kernel
theorem dL_law_910 : decode cL_law 910 = .ok (.iload 14, 2) := by decide +kernel
theorem dL_law_912 : decode cL_law 912 = .ok (.invokevirtual 60, 3) := by decide +kernel
theorem dL_law_915 : decode cL_law 915 = .ok (.goto 28, 3) := by decide +kernel
