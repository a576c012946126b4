/-! DECODE ROWS. Printed by wip/make.py. -/
theorem d_A_law_718 : decode mt_A_law.2.1 718 = .ok (.iload 4, 2) := by decide +kernel
theorem d_A_law_720 : decode mt_A_law.2.1 720 = .ok (.iconst 1, 1) := by decide +kernel
theorem d_A_law_721 : decode mt_A_law.2.1 721 = .ok (.iadd, 1) := by decide +kernel
theorem d_A_law_722 : decode mt_A_law.2.1 722 = .ok (.iaload, 1) := by decide +kernel
theorem d_A_law_723 : decode mt_A_law.2.1 723 = .ok (.aload_n 0, 1) := by decide +kernel
theorem d_A_law_724 : decode mt_A_law.2.1 724 = .ok (.iload 4, 2) := by decide +kernel
theorem d_A_law_726 : decode mt_A_law.2.1 726 = .ok (.iconst 2, 1) := by decide +kernel
theorem d_A_law_727 : decode mt_A_law.2.1 727 = .ok (.iadd, 1) := by decide +kernel
theorem d_A_law_728 : decode mt_A_law.2.1 728 = .ok (.iaload, 1) := by decide +kernel
theorem d_A_law_729 : decode mt_A_law.2.1 729 = .ok (.aload_n 3, 1) := by decide +kernel
theorem d_A_law_730 : decode mt_A_law.2.1 730 = .ok (.invokestatic 98, 3) := by decide +kernel
theorem d_A_law_733 : decode mt_A_law.2.1 733 = .ok (.istore 5, 2) := by decide +kernel
theorem d_A_law_735 : decode mt_A_law.2.1 735 = .ok (.aload_n 2, 1) := by decide +kernel
theorem d_A_law_736 : decode mt_A_law.2.1 736 = .ok (.aload_n 0, 1) := by decide +kernel
theorem d_A_law_737 : decode mt_A_law.2.1 737 = .ok (.iload 4, 2) := by decide +kernel
theorem d_A_law_739 : decode mt_A_law.2.1 739 = .ok (.iconst 1, 1) := by decide +kernel
theorem d_A_law_740 : decode mt_A_law.2.1 740 = .ok (.iadd, 1) := by decide +kernel
theorem d_A_law_741 : decode mt_A_law.2.1 741 = .ok (.iaload, 1) := by decide +kernel
theorem d_A_law_742 : decode mt_A_law.2.1 742 = .ok (.aload_n 0, 1) := by decide +kernel
theorem d_A_law_743 : decode mt_A_law.2.1 743 = .ok (.iload 4, 2) := by decide +kernel
theorem d_A_law_745 : decode mt_A_law.2.1 745 = .ok (.iconst 2, 1) := by decide +kernel
theorem d_A_law_746 : decode mt_A_law.2.1 746 = .ok (.iadd, 1) := by decide +kernel
theorem d_A_law_747 : decode mt_A_law.2.1 747 = .ok (.iaload, 1) := by decide +kernel
theorem d_A_law_748 : decode mt_A_law.2.1 748 = .ok (.invokevirtual 100, 3) := by decide +kernel
theorem d_A_law_751 : decode mt_A_law.2.1 751 = .ok (.lstore 6, 2) := by decide +kernel
theorem d_A_law_753 : decode mt_A_law.2.1 753 = .ok (.aload_n 2, 1) := by decide +kernel
theorem d_A_law_754 : decode mt_A_law.2.1 754 = .ok (.invokevirtual 64, 3) := by decide +kernel
theorem d_A_law_757 : decode mt_A_law.2.1 757 = .ok (.iload 5, 2) := by decide +kernel
theorem d_A_law_759 : decode mt_A_law.2.1 759 = .ok (.if_icmp .eq (5), 3) := by decide +kernel
theorem d_A_law_762 : decode mt_A_law.2.1 762 = .ok (.iconst 0, 1) := by decide +kernel
theorem d_A_law_763 : decode mt_A_law.2.1 763 = .ok (.ireturn, 1) := by decide +kernel
theorem d_A_law_764 : decode mt_A_law.2.1 764 = .ok (.iload 5, 2) := by decide +kernel
theorem d_A_law_766 : decode mt_A_law.2.1 766 = .ok (.ifCond .ne (14), 3) := by decide +kernel
theorem d_A_law_769 : decode mt_A_law.2.1 769 = .ok (.aload_n 3, 1) := by decide +kernel
theorem d_A_law_770 : decode mt_A_law.2.1 770 = .ok (.iconst 0, 1) := by decide +kernel
theorem d_A_law_771 : decode mt_A_law.2.1 771 = .ok (.laload, 1) := by decide +kernel
theorem d_A_law_772 : decode mt_A_law.2.1 772 = .ok (.lload 6, 2) := by decide +kernel
theorem d_A_law_774 : decode mt_A_law.2.1 774 = .ok (.lcmp, 1) := by decide +kernel
theorem d_A_law_775 : decode mt_A_law.2.1 775 = .ok (.ifCond .eq (5), 3) := by decide +kernel
theorem d_A_law_778 : decode mt_A_law.2.1 778 = .ok (.iconst 0, 1) := by decide +kernel
theorem d_A_law_779 : decode mt_A_law.2.1 779 = .ok (.ireturn, 1) := by decide +kernel
theorem d_A_law_780 : decode mt_A_law.2.1 780 = .ok (.goto (282), 3) := by decide +kernel
theorem d_A_law_783 : decode mt_A_law.2.1 783 = .ok (.aload_n 1, 1) := by decide +kernel
theorem d_A_law_784 : decode mt_A_law.2.1 784 = .ok (.aload_n 0, 1) := by decide +kernel
theorem d_A_law_785 : decode mt_A_law.2.1 785 = .ok (.iload 4, 2) := by decide +kernel
theorem d_A_law_787 : decode mt_A_law.2.1 787 = .ok (.iconst 1, 1) := by decide +kernel
theorem d_A_law_788 : decode mt_A_law.2.1 788 = .ok (.iadd, 1) := by decide +kernel
theorem d_A_law_789 : decode mt_A_law.2.1 789 = .ok (.iaload, 1) := by decide +kernel
theorem d_A_law_790 : decode mt_A_law.2.1 790 = .ok (.aload_n 0, 1) := by decide +kernel
theorem d_A_law_791 : decode mt_A_law.2.1 791 = .ok (.iload 4, 2) := by decide +kernel
theorem d_A_law_793 : decode mt_A_law.2.1 793 = .ok (.iconst 2, 1) := by decide +kernel
theorem d_A_law_794 : decode mt_A_law.2.1 794 = .ok (.iadd, 1) := by decide +kernel
theorem d_A_law_795 : decode mt_A_law.2.1 795 = .ok (.iaload, 1) := by decide +kernel
theorem d_A_law_796 : decode mt_A_law.2.1 796 = .ok (.aload_n 3, 1) := by decide +kernel
theorem d_A_law_797 : decode mt_A_law.2.1 797 = .ok (.invokestatic 101, 3) := by decide +kernel
theorem d_A_law_800 : decode mt_A_law.2.1 800 = .ok (.istore 5, 2) := by decide +kernel
theorem d_A_law_802 : decode mt_A_law.2.1 802 = .ok (.aload_n 2, 1) := by decide +kernel
theorem d_A_law_803 : decode mt_A_law.2.1 803 = .ok (.aload_n 0, 1) := by decide +kernel
theorem d_A_law_804 : decode mt_A_law.2.1 804 = .ok (.iload 4, 2) := by decide +kernel
theorem d_A_law_806 : decode mt_A_law.2.1 806 = .ok (.iconst 1, 1) := by decide +kernel
theorem d_A_law_807 : decode mt_A_law.2.1 807 = .ok (.iadd, 1) := by decide +kernel
theorem d_A_law_808 : decode mt_A_law.2.1 808 = .ok (.iaload, 1) := by decide +kernel
theorem d_A_law_809 : decode mt_A_law.2.1 809 = .ok (.aload_n 0, 1) := by decide +kernel
theorem d_A_law_810 : decode mt_A_law.2.1 810 = .ok (.iload 4, 2) := by decide +kernel
theorem d_A_law_812 : decode mt_A_law.2.1 812 = .ok (.iconst 2, 1) := by decide +kernel
theorem d_A_law_813 : decode mt_A_law.2.1 813 = .ok (.iadd, 1) := by decide +kernel
theorem d_A_law_814 : decode mt_A_law.2.1 814 = .ok (.iaload, 1) := by decide +kernel
theorem d_A_law_815 : decode mt_A_law.2.1 815 = .ok (.invokevirtual 103, 3) := by decide +kernel
theorem d_A_law_818 : decode mt_A_law.2.1 818 = .ok (.lstore 6, 2) := by decide +kernel
theorem d_A_law_820 : decode mt_A_law.2.1 820 = .ok (.aload_n 2, 1) := by decide +kernel
theorem d_A_law_821 : decode mt_A_law.2.1 821 = .ok (.invokevirtual 64, 3) := by decide +kernel
theorem d_A_law_824 : decode mt_A_law.2.1 824 = .ok (.iload 5, 2) := by decide +kernel
theorem d_A_law_826 : decode mt_A_law.2.1 826 = .ok (.if_icmp .eq (5), 3) := by decide +kernel
theorem d_A_law_829 : decode mt_A_law.2.1 829 = .ok (.iconst 0, 1) := by decide +kernel
theorem d_A_law_830 : decode mt_A_law.2.1 830 = .ok (.ireturn, 1) := by decide +kernel
theorem d_A_law_831 : decode mt_A_law.2.1 831 = .ok (.iload 5, 2) := by decide +kernel
theorem d_A_law_833 : decode mt_A_law.2.1 833 = .ok (.ifCond .ne (14), 3) := by decide +kernel
theorem d_A_law_836 : decode mt_A_law.2.1 836 = .ok (.aload_n 3, 1) := by decide +kernel
theorem d_A_law_837 : decode mt_A_law.2.1 837 = .ok (.iconst 0, 1) := by decide +kernel
theorem d_A_law_838 : decode mt_A_law.2.1 838 = .ok (.laload, 1) := by decide +kernel
theorem d_A_law_839 : decode mt_A_law.2.1 839 = .ok (.lload 6, 2) := by decide +kernel
theorem d_A_law_841 : decode mt_A_law.2.1 841 = .ok (.lcmp, 1) := by decide +kernel
theorem d_A_law_842 : decode mt_A_law.2.1 842 = .ok (.ifCond .eq (5), 3) := by decide +kernel
theorem d_A_law_845 : decode mt_A_law.2.1 845 = .ok (.iconst 0, 1) := by decide +kernel
theorem d_A_law_846 : decode mt_A_law.2.1 846 = .ok (.ireturn, 1) := by decide +kernel
theorem d_A_law_847 : decode mt_A_law.2.1 847 = .ok (.goto (215), 3) := by decide +kernel
theorem d_A_law_850 : decode mt_A_law.2.1 850 = .ok (.aload_n 1, 1) := by decide +kernel
theorem d_A_law_851 : decode mt_A_law.2.1 851 = .ok (.aload_n 0, 1) := by decide +kernel
theorem d_A_law_852 : decode mt_A_law.2.1 852 = .ok (.iload 4, 2) := by decide +kernel
theorem d_A_law_854 : decode mt_A_law.2.1 854 = .ok (.iconst 1, 1) := by decide +kernel
theorem d_A_law_855 : decode mt_A_law.2.1 855 = .ok (.iadd, 1) := by decide +kernel
theorem d_A_law_856 : decode mt_A_law.2.1 856 = .ok (.iaload, 1) := by decide +kernel
theorem d_A_law_857 : decode mt_A_law.2.1 857 = .ok (.aload_n 3, 1) := by decide +kernel
theorem d_A_law_858 : decode mt_A_law.2.1 858 = .ok (.invokestatic 104, 3) := by decide +kernel
theorem d_A_law_861 : decode mt_A_law.2.1 861 = .ok (.istore 5, 2) := by decide +kernel
theorem d_A_law_863 : decode mt_A_law.2.1 863 = .ok (.aload_n 2, 1) := by decide +kernel
theorem d_A_law_864 : decode mt_A_law.2.1 864 = .ok (.aload_n 0, 1) := by decide +kernel
theorem d_A_law_865 : decode mt_A_law.2.1 865 = .ok (.iload 4, 2) := by decide +kernel
theorem d_A_law_867 : decode mt_A_law.2.1 867 = .ok (.iconst 1, 1) := by decide +kernel
theorem d_A_law_868 : decode mt_A_law.2.1 868 = .ok (.iadd, 1) := by decide +kernel
theorem d_A_law_869 : decode mt_A_law.2.1 869 = .ok (.iaload, 1) := by decide +kernel
theorem d_A_law_870 : decode mt_A_law.2.1 870 = .ok (.invokevirtual 107, 3) := by decide +kernel
theorem d_A_law_873 : decode mt_A_law.2.1 873 = .ok (.istore 6, 2) := by decide +kernel
theorem d_A_law_875 : decode mt_A_law.2.1 875 = .ok (.aload_n 2, 1) := by decide +kernel
theorem d_A_law_876 : decode mt_A_law.2.1 876 = .ok (.invokevirtual 64, 3) := by decide +kernel
theorem d_A_law_879 : decode mt_A_law.2.1 879 = .ok (.iload 5, 2) := by decide +kernel
theorem d_A_law_881 : decode mt_A_law.2.1 881 = .ok (.if_icmp .eq (5), 3) := by decide +kernel
theorem d_A_law_884 : decode mt_A_law.2.1 884 = .ok (.iconst 0, 1) := by decide +kernel
theorem d_A_law_885 : decode mt_A_law.2.1 885 = .ok (.ireturn, 1) := by decide +kernel
theorem d_A_law_886 : decode mt_A_law.2.1 886 = .ok (.iload 5, 2) := by decide +kernel
theorem d_A_law_888 : decode mt_A_law.2.1 888 = .ok (.ifCond .ne (15), 3) := by decide +kernel
theorem d_A_law_891 : decode mt_A_law.2.1 891 = .ok (.aload_n 3, 1) := by decide +kernel
theorem d_A_law_892 : decode mt_A_law.2.1 892 = .ok (.iconst 0, 1) := by decide +kernel
theorem d_A_law_893 : decode mt_A_law.2.1 893 = .ok (.laload, 1) := by decide +kernel
theorem d_A_law_894 : decode mt_A_law.2.1 894 = .ok (.iload 6, 2) := by decide +kernel
theorem d_A_law_896 : decode mt_A_law.2.1 896 = .ok (.i2l, 1) := by decide +kernel
theorem d_A_law_897 : decode mt_A_law.2.1 897 = .ok (.lcmp, 1) := by decide +kernel
theorem d_A_law_898 : decode mt_A_law.2.1 898 = .ok (.ifCond .eq (5), 3) := by decide +kernel
theorem d_A_law_901 : decode mt_A_law.2.1 901 = .ok (.iconst 0, 1) := by decide +kernel
theorem d_A_law_902 : decode mt_A_law.2.1 902 = .ok (.ireturn, 1) := by decide +kernel
theorem d_A_law_903 : decode mt_A_law.2.1 903 = .ok (.goto (159), 3) := by decide +kernel
theorem d_A_law_906 : decode mt_A_law.2.1 906 = .ok (.aload_n 1, 1) := by decide +kernel
theorem d_A_law_907 : decode mt_A_law.2.1 907 = .ok (.aload_n 0, 1) := by decide +kernel
theorem d_A_law_908 : decode mt_A_law.2.1 908 = .ok (.iload 4, 2) := by decide +kernel
theorem d_A_law_910 : decode mt_A_law.2.1 910 = .ok (.iconst 1, 1) := by decide +kernel
theorem d_A_law_911 : decode mt_A_law.2.1 911 = .ok (.iadd, 1) := by decide +kernel
theorem d_A_law_912 : decode mt_A_law.2.1 912 = .ok (.iaload, 1) := by decide +kernel
theorem d_A_law_913 : decode mt_A_law.2.1 913 = .ok (.aload_n 3, 1) := by decide +kernel
theorem d_A_law_914 : decode mt_A_law.2.1 914 = .ok (.invokestatic 108, 3) := by decide +kernel
theorem d_A_law_917 : decode mt_A_law.2.1 917 = .ok (.istore 5, 2) := by decide +kernel
theorem d_A_law_919 : decode mt_A_law.2.1 919 = .ok (.aload_n 2, 1) := by decide +kernel
theorem d_A_law_920 : decode mt_A_law.2.1 920 = .ok (.aload_n 0, 1) := by decide +kernel
theorem d_A_law_921 : decode mt_A_law.2.1 921 = .ok (.iload 4, 2) := by decide +kernel
theorem d_A_law_923 : decode mt_A_law.2.1 923 = .ok (.iconst 1, 1) := by decide +kernel
theorem d_A_law_924 : decode mt_A_law.2.1 924 = .ok (.iadd, 1) := by decide +kernel
theorem d_A_law_925 : decode mt_A_law.2.1 925 = .ok (.iaload, 1) := by decide +kernel
theorem d_A_law_926 : decode mt_A_law.2.1 926 = .ok (.invokevirtual 110, 3) := by decide +kernel
theorem d_A_law_929 : decode mt_A_law.2.1 929 = .ok (.istore 6, 2) := by decide +kernel
theorem d_A_law_931 : decode mt_A_law.2.1 931 = .ok (.aload_n 2, 1) := by decide +kernel
theorem d_A_law_932 : decode mt_A_law.2.1 932 = .ok (.invokevirtual 64, 3) := by decide +kernel
theorem d_A_law_935 : decode mt_A_law.2.1 935 = .ok (.iload 5, 2) := by decide +kernel
theorem d_A_law_937 : decode mt_A_law.2.1 937 = .ok (.if_icmp .eq (5), 3) := by decide +kernel
theorem d_A_law_940 : decode mt_A_law.2.1 940 = .ok (.iconst 0, 1) := by decide +kernel
theorem d_A_law_941 : decode mt_A_law.2.1 941 = .ok (.ireturn, 1) := by decide +kernel
theorem d_A_law_942 : decode mt_A_law.2.1 942 = .ok (.iload 5, 2) := by decide +kernel
theorem d_A_law_944 : decode mt_A_law.2.1 944 = .ok (.ifCond .ne (15), 3) := by decide +kernel
theorem d_A_law_947 : decode mt_A_law.2.1 947 = .ok (.aload_n 3, 1) := by decide +kernel
theorem d_A_law_948 : decode mt_A_law.2.1 948 = .ok (.iconst 0, 1) := by decide +kernel
theorem d_A_law_949 : decode mt_A_law.2.1 949 = .ok (.laload, 1) := by decide +kernel
theorem d_A_law_950 : decode mt_A_law.2.1 950 = .ok (.iload 6, 2) := by decide +kernel
theorem d_A_law_952 : decode mt_A_law.2.1 952 = .ok (.i2l, 1) := by decide +kernel
theorem d_A_law_953 : decode mt_A_law.2.1 953 = .ok (.lcmp, 1) := by decide +kernel
theorem d_A_law_954 : decode mt_A_law.2.1 954 = .ok (.ifCond .eq (5), 3) := by decide +kernel
theorem d_A_law_957 : decode mt_A_law.2.1 957 = .ok (.iconst 0, 1) := by decide +kernel
theorem d_A_law_958 : decode mt_A_law.2.1 958 = .ok (.ireturn, 1) := by decide +kernel
theorem d_A_law_959 : decode mt_A_law.2.1 959 = .ok (.goto (103), 3) := by decide +kernel
theorem d_A_law_962 : decode mt_A_law.2.1 962 = .ok (.aload_n 1, 1) := by decide +kernel
theorem d_A_law_963 : decode mt_A_law.2.1 963 = .ok (.aload_n 0, 1) := by decide +kernel
theorem d_A_law_964 : decode mt_A_law.2.1 964 = .ok (.iload 4, 2) := by decide +kernel
theorem d_A_law_966 : decode mt_A_law.2.1 966 = .ok (.iconst 1, 1) := by decide +kernel
theorem d_A_law_967 : decode mt_A_law.2.1 967 = .ok (.iadd, 1) := by decide +kernel
theorem d_A_law_968 : decode mt_A_law.2.1 968 = .ok (.iaload, 1) := by decide +kernel
theorem d_A_law_969 : decode mt_A_law.2.1 969 = .ok (.aload_n 0, 1) := by decide +kernel
theorem d_A_law_970 : decode mt_A_law.2.1 970 = .ok (.iload 4, 2) := by decide +kernel
theorem d_A_law_972 : decode mt_A_law.2.1 972 = .ok (.iconst 2, 1) := by decide +kernel
theorem d_A_law_973 : decode mt_A_law.2.1 973 = .ok (.iadd, 1) := by decide +kernel
theorem d_A_law_974 : decode mt_A_law.2.1 974 = .ok (.iaload, 1) := by decide +kernel
theorem d_A_law_975 : decode mt_A_law.2.1 975 = .ok (.aload_n 3, 1) := by decide +kernel
theorem d_A_law_976 : decode mt_A_law.2.1 976 = .ok (.invokestatic 111, 3) := by decide +kernel
theorem d_A_law_979 : decode mt_A_law.2.1 979 = .ok (.istore 5, 2) := by decide +kernel
theorem d_A_law_981 : decode mt_A_law.2.1 981 = .ok (.aload_n 2, 1) := by decide +kernel
theorem d_A_law_982 : decode mt_A_law.2.1 982 = .ok (.aload_n 0, 1) := by decide +kernel
theorem d_A_law_983 : decode mt_A_law.2.1 983 = .ok (.iload 4, 2) := by decide +kernel
theorem d_A_law_985 : decode mt_A_law.2.1 985 = .ok (.iconst 1, 1) := by decide +kernel
theorem d_A_law_986 : decode mt_A_law.2.1 986 = .ok (.iadd, 1) := by decide +kernel
theorem d_A_law_987 : decode mt_A_law.2.1 987 = .ok (.iaload, 1) := by decide +kernel
theorem d_A_law_988 : decode mt_A_law.2.1 988 = .ok (.aload_n 0, 1) := by decide +kernel
theorem d_A_law_989 : decode mt_A_law.2.1 989 = .ok (.iload 4, 2) := by decide +kernel
theorem d_A_law_991 : decode mt_A_law.2.1 991 = .ok (.iconst 2, 1) := by decide +kernel
theorem d_A_law_992 : decode mt_A_law.2.1 992 = .ok (.iadd, 1) := by decide +kernel
theorem d_A_law_993 : decode mt_A_law.2.1 993 = .ok (.iaload, 1) := by decide +kernel
theorem d_A_law_994 : decode mt_A_law.2.1 994 = .ok (.invokevirtual 113, 3) := by decide +kernel
theorem d_A_law_997 : decode mt_A_law.2.1 997 = .ok (.istore 6, 2) := by decide +kernel
theorem d_A_law_999 : decode mt_A_law.2.1 999 = .ok (.aload_n 2, 1) := by decide +kernel
theorem d_A_law_1000 : decode mt_A_law.2.1 1000 = .ok (.invokevirtual 64, 3) := by decide +kernel
theorem d_A_law_1003 : decode mt_A_law.2.1 1003 = .ok (.iload 5, 2) := by decide +kernel
theorem d_A_law_1005 : decode mt_A_law.2.1 1005 = .ok (.if_icmp .eq (5), 3) := by decide +kernel
theorem d_A_law_1008 : decode mt_A_law.2.1 1008 = .ok (.iconst 0, 1) := by decide +kernel
theorem d_A_law_1009 : decode mt_A_law.2.1 1009 = .ok (.ireturn, 1) := by decide +kernel
theorem d_A_law_1010 : decode mt_A_law.2.1 1010 = .ok (.iload 5, 2) := by decide +kernel
theorem d_A_law_1012 : decode mt_A_law.2.1 1012 = .ok (.ifCond .ne (22), 3) := by decide +kernel
theorem d_A_law_1015 : decode mt_A_law.2.1 1015 = .ok (.aload_n 3, 1) := by decide +kernel
theorem d_A_law_1016 : decode mt_A_law.2.1 1016 = .ok (.iconst 0, 1) := by decide +kernel
theorem d_A_law_1017 : decode mt_A_law.2.1 1017 = .ok (.laload, 1) := by decide +kernel
theorem d_A_law_1018 : decode mt_A_law.2.1 1018 = .ok (.iload 6, 2) := by decide +kernel
theorem d_A_law_1020 : decode mt_A_law.2.1 1020 = .ok (.ifCond .eq (7), 3) := by decide +kernel
theorem d_A_law_1023 : decode mt_A_law.2.1 1023 = .ok (.lconst 1, 1) := by decide +kernel
theorem d_A_law_1024 : decode mt_A_law.2.1 1024 = .ok (.goto (4), 3) := by decide +kernel
theorem d_A_law_1027 : decode mt_A_law.2.1 1027 = .ok (.lconst 0, 1) := by decide +kernel
theorem d_A_law_1028 : decode mt_A_law.2.1 1028 = .ok (.lcmp, 1) := by decide +kernel
theorem d_A_law_1029 : decode mt_A_law.2.1 1029 = .ok (.ifCond .eq (5), 3) := by decide +kernel
theorem d_A_law_1032 : decode mt_A_law.2.1 1032 = .ok (.iconst 0, 1) := by decide +kernel
theorem d_A_law_1033 : decode mt_A_law.2.1 1033 = .ok (.ireturn, 1) := by decide +kernel
theorem d_A_law_1034 : decode mt_A_law.2.1 1034 = .ok (.goto (28), 3) := by decide +kernel
theorem d_A_law_1037 : decode mt_A_law.2.1 1037 = .ok (.aload_n 1, 1) := by decide +kernel
theorem d_A_law_1038 : decode mt_A_law.2.1 1038 = .ok (.aload_n 0, 1) := by decide +kernel
theorem d_A_law_1039 : decode mt_A_law.2.1 1039 = .ok (.iload 4, 2) := by decide +kernel
theorem d_A_law_1041 : decode mt_A_law.2.1 1041 = .ok (.iconst 1, 1) := by decide +kernel
theorem d_A_law_1042 : decode mt_A_law.2.1 1042 = .ok (.iadd, 1) := by decide +kernel
theorem d_A_law_1043 : decode mt_A_law.2.1 1043 = .ok (.iaload, 1) := by decide +kernel
theorem d_A_law_1044 : decode mt_A_law.2.1 1044 = .ok (.invokevirtual 114, 3) := by decide +kernel
theorem d_A_law_1047 : decode mt_A_law.2.1 1047 = .ok (.aload_n 2, 1) := by decide +kernel
theorem d_A_law_1048 : decode mt_A_law.2.1 1048 = .ok (.aload_n 0, 1) := by decide +kernel
theorem d_A_law_1049 : decode mt_A_law.2.1 1049 = .ok (.iload 4, 2) := by decide +kernel
theorem d_A_law_1051 : decode mt_A_law.2.1 1051 = .ok (.iconst 1, 1) := by decide +kernel
theorem d_A_law_1052 : decode mt_A_law.2.1 1052 = .ok (.iadd, 1) := by decide +kernel
theorem d_A_law_1053 : decode mt_A_law.2.1 1053 = .ok (.iaload, 1) := by decide +kernel
theorem d_A_law_1054 : decode mt_A_law.2.1 1054 = .ok (.invokevirtual 117, 3) := by decide +kernel
theorem d_A_law_1057 : decode mt_A_law.2.1 1057 = .ok (.if_icmp .eq (5), 3) := by decide +kernel
theorem d_A_law_1060 : decode mt_A_law.2.1 1060 = .ok (.iconst 0, 1) := by decide +kernel
theorem d_A_law_1061 : decode mt_A_law.2.1 1061 = .ok (.ireturn, 1) := by decide +kernel
theorem d_A_law_1062 : decode mt_A_law.2.1 1062 = .ok (.iinc 4 (8), 3) := by decide +kernel
theorem d_A_law_1065 : decode mt_A_law.2.1 1065 = .ok (.goto (-1042), 3) := by decide +kernel
theorem d_A_law_1068 : decode mt_A_law.2.1 1068 = .ok (.iconst 1, 1) := by decide +kernel
theorem d_A_law_1069 : decode mt_A_law.2.1 1069 = .ok (.ireturn, 1) := by decide +kernel
