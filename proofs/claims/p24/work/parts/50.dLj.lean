theorem dL_law_735 : decode cL_law 735 = .ok (.ifCond .eq 7, 3) := by decide +kernel
theorem dL_law_738 : decode cL_law 738 = .ok (.iconst 1, 1) := by decide +kernel
theorem dL_law_739 : decode cL_law 739 = .ok (.goto 4, 3) := by decide +kernel
theorem dL_law_742 : decode cL_law 742 = .ok (.iconst 0, 1) := by decide +kernel
theorem dL_law_743 : decode cL_law 743 = .ok (.invokevirtual 23, 3) := by decide +kernel
theorem dL_law_746 : decode cL_law 746 = .ok (.iload 9, 2) := by decide +kernel
theorem dL_law_748 : decode cL_law 748 = .ok (.if_icmp .ne 31, 3) := by decide +kernel
theorem dL_law_751 : decode cL_law 751 = .ok (.aload_n 1, 1) := by decide +kernel
theorem dL_law_752 : decode cL_law 752 = .ok (.iload 8, 2) := by decide +kernel
theorem dL_law_754 : decode cL_law 754 = .ok (.bipush 6, 2) := by decide +kernel
theorem dL_law_756 : decode cL_law 756 = .ok (.invokevirtual 31, 3) := by decide +kernel
theorem dL_law_759 : decode cL_law 759 = .ok (.iload 5, 2) := by decide +kernel
theorem dL_law_761 : decode cL_law 761 = .ok (.bipush 64, 2) := by decide +kernel
theorem dL_law_763 : decode cL_law 763 = .ok (.iand, 1) := by decide +kernel
theorem dL_law_764 : decode cL_law 764 = .ok (.ifCond .eq 7, 3) := by decide +kernel
theorem dL_law_767 : decode cL_law 767 = .ok (.iconst 1, 1) := by decide +kernel
theorem dL_law_768 : decode cL_law 768 = .ok (.goto 4, 3) := by decide +kernel
theorem dL_law_771 : decode cL_law 771 = .ok (.iconst 0, 1) := by decide +kernel
theorem dL_law_772 : decode cL_law 772 = .ok (.if_icmp .ne 7, 3) := by decide +kernel
theorem dL_law_775 : decode cL_law 775 = .ok (.iconst 1, 1) := by decide +kernel
theorem dL_law_776 : decode cL_law 776 = .ok (.goto 4, 3) := by decide +kernel
theorem dL_law_779 : decode cL_law 779 = .ok (.iconst 0, 1) := by decide +kernel
theorem dL_law_780 : decode cL_law 780 = .ok (.istore 6, 2) := by decide +kernel
theorem dL_law_782 : decode cL_law 782 = .ok (.goto 139, 3) := by decide +kernel
theorem dL_law_785 : decode cL_law 785 = .ok (.iload 7, 2) := by decide +kernel
theorem dL_law_787 : decode cL_law 787 = .ok (.bipush 9, 2) := by decide +kernel
theorem dL_law_789 : decode cL_law 789 = .ok (.if_icmp .ne 84, 3) := by decide +kernel
theorem dL_law_792 : decode cL_law 792 = .ok (.iload_n 2, 1) := by decide +kernel
theorem dL_law_793 : decode cL_law 793 = .ok (.ifCond .le 80, 3) := by decide +kernel
theorem dL_law_796 : decode cL_law 796 = .ok (.iload 5, 2) := by decide +kernel
theorem dL_law_798 : decode cL_law 798 = .ok (.iload_n 2, 1) := by decide +kernel
theorem dL_law_799 : decode cL_law 799 = .ok (.invokestatic 109, 3) := by decide +kernel
theorem dL_law_802 : decode cL_law 802 = .ok (.istore 8, 2) := by decide +kernel
theorem dL_law_804 : decode cL_law 804 = .ok (.iload 5, 2) := by decide +kernel
theorem dL_law_806 : decode cL_law 806 = .ok (.bipush 64, 2) := by decide +kernel
theorem dL_law_808 : decode cL_law 808 = .ok (.iand, 1) := by decide +kernel
theorem dL_law_809 : decode cL_law 809 = .ok (.ifCond .eq 7, 3) := by decide +kernel
theorem dL_law_812 : decode cL_law 812 = .ok (.iconst 1, 1) := by decide +kernel
theorem dL_law_813 : decode cL_law 813 = .ok (.goto 4, 3) := by decide +kernel
theorem dL_law_816 : decode cL_law 816 = .ok (.iconst 0, 1) := by decide +kernel
theorem dL_law_817 : decode cL_law 817 = .ok (.istore 9, 2) := by decide +kernel
theorem dL_law_819 : decode cL_law 819 = .ok (.aload_n 1, 1) := by decide +kernel
theorem dL_law_820 : decode cL_law 820 = .ok (.iload 8, 2) := by decide +kernel
theorem dL_law_822 : decode cL_law 822 = .ok (.iload 9, 2) := by decide +kernel
theorem dL_law_824 : decode cL_law 824 = .ok (.ifCond .eq 7, 3) := by decide +kernel
theorem dL_law_827 : decode cL_law 827 = .ok (.iconst 5, 1) := by decide +kernel
theorem dL_law_828 : decode cL_law 828 = .ok (.goto 4, 3) := by decide +kernel
theorem dL_law_831 : decode cL_law 831 = .ok (.iconst 4, 1) := by decide +kernel
theorem dL_law_832 : decode cL_law 832 = .ok (.invokevirtual 31, 3) := by decide +kernel
theorem dL_law_835 : decode cL_law 835 = .ok (.istore 10, 2) := by decide +kernel
theorem dL_law_837 : decode cL_law 837 = .ok (.aload_n 1, 1) := by decide +kernel
theorem dL_law_838 : decode cL_law 838 = .ok (.iload 8, 2) := by decide +kernel
theorem dL_law_840 : decode cL_law 840 = .ok (.iload 9, 2) := by decide +kernel
theorem dL_law_842 : decode cL_law 842 = .ok (.iconst 1, 1) := by decide +kernel
theorem dL_law_843 : decode cL_law 843 = .ok (.iload 5, 2) := by decide +kernel
theorem dL_law_845 : decode cL_law 845 = .ok (.bipush 7, 2) := by decide +kernel
theorem dL_law_847 : decode cL_law 847 = .ok (.ishr, 1) := by decide +kernel
theorem dL_law_848 : decode cL_law 848 = .ok (.sipush 9000, 3) := by decide +kernel
theorem dL_law_851 : decode cL_law 851 = .ok (.invokestatic 109, 3) := by decide +kernel
theorem dL_law_854 : decode cL_law 854 = .ok (.iadd, 1) := by decide +kernel
theorem dL_law_855 : decode cL_law 855 = .ok (.invokevirtual 27, 3) := by decide +kernel
theorem dL_law_858 : decode cL_law 858 = .ok (.iload 10, 2) := by decide +kernel
theorem dL_law_860 : decode cL_law 860 = .ok (.if_icmp .ne 7, 3) := by decide +kernel
theorem dL_law_863 : decode cL_law 863 = .ok (.iconst 1, 1) := by decide +kernel
theorem dL_law_864 : decode cL_law 864 = .ok (.goto 4, 3) := by decide +kernel
theorem dL_law_867 : decode cL_law 867 = .ok (.iconst 0, 1) := by decide +kernel
theorem dL_law_868 : decode cL_law 868 = .ok (.istore 6, 2) := by decide +kernel
theorem dL_law_870 : decode cL_law 870 = .ok (.goto 51, 3) := by decide +kernel
theorem dL_law_873 : decode cL_law 873 = .ok (.aload_n 1, 1) := by decide +kernel
theorem dL_law_874 : decode cL_law 874 = .ok (.iload_n 2, 1) := by decide +kernel
theorem dL_law_875 : decode cL_law 875 = .ok (.iload 5, 2) := by decide +kernel
theorem dL_law_877 : decode cL_law 877 = .ok (.sipush 20001, 3) := by decide +kernel
theorem dL_law_880 : decode cL_law 880 = .ok (.invokestatic 109, 3) := by decide +kernel
theorem dL_law_883 : decode cL_law 883 = .ok (.sipush 10000, 3) := by decide +kernel
theorem dL_law_886 : decode cL_law 886 = .ok (.isub, 1) := by decide +kernel
theorem dL_law_887 : decode cL_law 887 = .ok (.iload 5, 2) := by decide +kernel
theorem dL_law_889 : decode cL_law 889 = .ok (.iconst 3, 1) := by decide +kernel
theorem dL_law_890 : decode cL_law 890 = .ok (.ishr, 1) := by decide +kernel
theorem dL_law_891 : decode cL_law 891 = .ok (.sipush 20001, 3) := by decide +kernel
theorem dL_law_894 : decode cL_law 894 = .ok (.invokestatic 109, 3) := by decide +kernel
theorem dL_law_897 : decode cL_law 897 = .ok (.sipush 10000, 3) := by decide +kernel
theorem dL_law_900 : decode cL_law 900 = .ok (.isub, 1) := by decide +kernel
theorem dL_law_901 : decode cL_law 901 = .ok (.iload 5, 2) := by decide +kernel
theorem dL_law_903 : decode cL_law 903 = .ok (.bipush 6, 2) := by decide +kernel
theorem dL_law_905 : decode cL_law 905 = .ok (.ishr, 1) := by decide +kernel
theorem dL_law_906 : decode cL_law 906 = .ok (.sipush 20001, 3) := by decide +kernel
theorem dL_law_909 : decode cL_law 909 = .ok (.invokestatic 109, 3) := by decide +kernel
theorem dL_law_912 : decode cL_law 912 = .ok (.sipush 10000, 3) := by decide +kernel
theorem dL_law_915 : decode cL_law 915 = .ok (.isub, 1) := by decide +kernel
theorem dL_law_916 : decode cL_law 916 = .ok (.invokestatic 117, 3) := by decide +kernel
theorem dL_law_919 : decode cL_law 919 = .ok (.istore 6, 2) := by decide +kernel
theorem dL_law_921 : decode cL_law 921 = .ok (.iload 6, 2) := by decide +kernel
theorem dL_law_923 : decode cL_law 923 = .ok (.ifCond .eq 11, 3) := by decide +kernel
theorem dL_law_926 : decode cL_law 926 = .ok (.aload_n 1, 1) := by decide +kernel
theorem dL_law_927 : decode cL_law 927 = .ok (.iload_n 2, 1) := by decide +kernel
theorem dL_law_928 : decode cL_law 928 = .ok (.invokestatic 121, 3) := by decide +kernel
theorem dL_law_931 : decode cL_law 931 = .ok (.ifCond .ne 5, 3) := by decide +kernel
theorem dL_law_934 : decode cL_law 934 = .ok (.iconst 0, 1) := by decide +kernel
theorem dL_law_935 : decode cL_law 935 = .ok (.ireturn, 1) := by decide +kernel
theorem dL_law_936 : decode cL_law 936 = .ok (.iinc 3 1, 3) := by decide +kernel
theorem dL_law_939 : decode cL_law 939 = .ok (.goto (-840), 3) := by decide +kernel
theorem dL_law_942 : decode cL_law 942 = .ok (.aload_n 1, 1) := by decide +kernel
theorem dL_law_943 : decode cL_law 943 = .ok (.iload_n 2, 1) := by decide +kernel
theorem dL_law_944 : decode cL_law 944 = .ok (.invokestatic 102, 3) := by decide +kernel
theorem dL_law_947 : decode cL_law 947 = .ok (.ireturn, 1) := by decide +kernel
