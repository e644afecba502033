theorem dL_law_667 : decode cL_law 667 = .ok (.iaload, 1) := by decide +kernel
theorem dL_law_668 : decode cL_law 668 = .ok (.invokevirtual 111, 3) := by decide +kernel
theorem dL_law_671 : decode cL_law 671 = .ok (.istore 7, 2) := by decide +kernel
theorem dL_law_673 : decode cL_law 673 = .ok (.aload_n 2, 1) := by decide +kernel
theorem dL_law_674 : decode cL_law 674 = .ok (.invokevirtual 88, 3) := by decide +kernel
theorem dL_law_677 : decode cL_law 677 = .ok (.iload 6, 2) := by decide +kernel
theorem dL_law_679 : decode cL_law 679 = .ok (.if_icmp .eq 5, 3) := by decide +kernel
theorem dL_law_682 : decode cL_law 682 = .ok (.iconst 0, 1) := by decide +kernel
theorem dL_law_683 : decode cL_law 683 = .ok (.ireturn, 1) := by decide +kernel
theorem dL_law_684 : decode cL_law 684 = .ok (.iload 6, 2) := by decide +kernel
theorem dL_law_686 : decode cL_law 686 = .ok (.ifCond .ne 15, 3) := by decide +kernel
theorem dL_law_689 : decode cL_law 689 = .ok (.aload_n 3, 1) := by decide +kernel
theorem dL_law_690 : decode cL_law 690 = .ok (.iconst 0, 1) := by decide +kernel
theorem dL_law_691 : decode cL_law 691 = .ok (.laload, 1) := by decide +kernel
theorem dL_law_692 : decode cL_law 692 = .ok (.iload 7, 2) := by decide +kernel
theorem dL_law_694 : decode cL_law 694 = .ok (.i2l, 1) := by decide +kernel
theorem dL_law_695 : decode cL_law 695 = .ok (.lcmp, 1) := by decide +kernel
theorem dL_law_696 : decode cL_law 696 = .ok (.ifCond .eq 5, 3) := by decide +kernel
theorem dL_law_699 : decode cL_law 699 = .ok (.iconst 0, 1) := by decide +kernel
theorem dL_law_700 : decode cL_law 700 = .ok (.ireturn, 1) := by decide +kernel
theorem dL_law_701 : decode cL_law 701 = .ok (.goto 846, 3) := by decide +kernel
theorem dL_law_704 : decode cL_law 704 = .ok (.aload_n 1, 1) := by decide +kernel
theorem dL_law_705 : decode cL_law 705 = .ok (.invokevirtual 112, 3) := by decide +kernel
theorem dL_law_708 : decode cL_law 708 = .ok (.aload_n 2, 1) := by decide +kernel
theorem dL_law_709 : decode cL_law 709 = .ok (.invokevirtual 115, 3) := by decide +kernel
theorem dL_law_712 : decode cL_law 712 = .ok (.if_icmp .eq 835, 3) := by decide +kernel
theorem dL_law_715 : decode cL_law 715 = .ok (.iconst 0, 1) := by decide +kernel
theorem dL_law_716 : decode cL_law 716 = .ok (.ireturn, 1) := by decide +kernel
theorem dL_law_717 : decode cL_law 717 = .ok (.aload_n 1, 1) := by decide +kernel
theorem dL_law_718 : decode cL_law 718 = .ok (.invokevirtual 116, 3) := by decide +kernel
theorem dL_law_721 : decode cL_law 721 = .ok (.aload_n 2, 1) := by decide +kernel
theorem dL_law_722 : decode cL_law 722 = .ok (.invokevirtual 119, 3) := by decide +kernel
theorem dL_law_725 : decode cL_law 725 = .ok (.if_icmp .eq 822, 3) := by decide +kernel
theorem dL_law_728 : decode cL_law 728 = .ok (.iconst 0, 1) := by decide +kernel
theorem dL_law_729 : decode cL_law 729 = .ok (.ireturn, 1) := by decide +kernel
theorem dL_law_730 : decode cL_law 730 = .ok (.aload_n 1, 1) := by decide +kernel
theorem dL_law_731 : decode cL_law 731 = .ok (.invokevirtual 120, 3) := by decide +kernel
theorem dL_law_734 : decode cL_law 734 = .ok (.aload_n 2, 1) := by decide +kernel
theorem dL_law_735 : decode cL_law 735 = .ok (.invokevirtual 123, 3) := by decide +kernel
theorem dL_law_738 : decode cL_law 738 = .ok (.if_icmp .eq 809, 3) := by decide +kernel
theorem dL_law_741 : decode cL_law 741 = .ok (.iconst 0, 1) := by decide +kernel
theorem dL_law_742 : decode cL_law 742 = .ok (.ireturn, 1) := by decide +kernel
theorem dL_law_743 : decode cL_law 743 = .ok (.aload_n 1, 1) := by decide +kernel
theorem dL_law_744 : decode cL_law 744 = .ok (.aload_n 0, 1) := by decide +kernel
theorem dL_law_745 : decode cL_law 745 = .ok (.iload 5, 2) := by decide +kernel
theorem dL_law_747 : decode cL_law 747 = .ok (.iconst 1, 1) := by decide +kernel
theorem dL_law_748 : decode cL_law 748 = .ok (.iadd, 1) := by decide +kernel
theorem dL_law_749 : decode cL_law 749 = .ok (.iaload, 1) := by decide +kernel
theorem dL_law_750 : decode cL_law 750 = .ok (.aload_n 0, 1) := by decide +kernel
theorem dL_law_751 : decode cL_law 751 = .ok (.iload 5, 2) := by decide +kernel
theorem dL_law_753 : decode cL_law 753 = .ok (.iconst 2, 1) := by decide +kernel
theorem dL_law_754 : decode cL_law 754 = .ok (.iadd, 1) := by decide +kernel
theorem dL_law_755 : decode cL_law 755 = .ok (.iaload, 1) := by decide +kernel
theorem dL_law_756 : decode cL_law 756 = .ok (.aload_n 3, 1) := by decide +kernel
theorem dL_law_757 : decode cL_law 757 = .ok (.invokestatic 124, 3) := by decide +kernel
theorem dL_law_760 : decode cL_law 760 = .ok (.istore 6, 2) := by decide +kernel
theorem dL_law_762 : decode cL_law 762 = .ok (.aload_n 2, 1) := by decide +kernel
theorem dL_law_763 : decode cL_law 763 = .ok (.aload_n 0, 1) := by decide +kernel
theorem dL_law_764 : decode cL_law 764 = .ok (.iload 5, 2) := by decide +kernel
theorem dL_law_766 : decode cL_law 766 = .ok (.iconst 1, 1) := by decide +kernel
theorem dL_law_767 : decode cL_law 767 = .ok (.iadd, 1) := by decide +kernel
theorem dL_law_768 : decode cL_law 768 = .ok (.iaload, 1) := by decide +kernel
theorem dL_law_769 : decode cL_law 769 = .ok (.aload_n 0, 1) := by decide +kernel
theorem dL_law_770 : decode cL_law 770 = .ok (.iload 5, 2) := by decide +kernel
theorem dL_law_772 : decode cL_law 772 = .ok (.iconst 2, 1) := by decide +kernel
theorem dL_law_773 : decode cL_law 773 = .ok (.iadd, 1) := by decide +kernel
theorem dL_law_774 : decode cL_law 774 = .ok (.iaload, 1) := by decide +kernel
theorem dL_law_775 : decode cL_law 775 = .ok (.invokevirtual 126, 3) := by decide +kernel
theorem dL_law_778 : decode cL_law 778 = .ok (.istore 7, 2) := by decide +kernel
theorem dL_law_780 : decode cL_law 780 = .ok (.aload_n 2, 1) := by decide +kernel
theorem dL_law_781 : decode cL_law 781 = .ok (.invokevirtual 88, 3) := by decide +kernel
theorem dL_law_784 : decode cL_law 784 = .ok (.iload 6, 2) := by decide +kernel
theorem dL_law_786 : decode cL_law 786 = .ok (.if_icmp .eq 5, 3) := by decide +kernel
theorem dL_law_789 : decode cL_law 789 = .ok (.iconst 0, 1) := by decide +kernel
theorem dL_law_790 : decode cL_law 790 = .ok (.ireturn, 1) := by decide +kernel
theorem dL_law_791 : decode cL_law 791 = .ok (.iload 6, 2) := by decide +kernel
theorem dL_law_793 : decode cL_law 793 = .ok (.ifCond .ne 15, 3) := by decide +kernel
theorem dL_law_796 : decode cL_law 796 = .ok (.aload_n 3, 1) := by decide +kernel
theorem dL_law_797 : decode cL_law 797 = .ok (.iconst 0, 1) := by decide +kernel
theorem dL_law_798 : decode cL_law 798 = .ok (.laload, 1) := by decide +kernel
theorem dL_law_799 : decode cL_law 799 = .ok (.iload 7, 2) := by decide +kernel
theorem dL_law_801 : decode cL_law 801 = .ok (.i2l, 1) := by decide +kernel
theorem dL_law_802 : decode cL_law 802 = .ok (.lcmp, 1) := by decide +kernel
theorem dL_law_803 : decode cL_law 803 = .ok (.ifCond .eq 5, 3) := by decide +kernel
theorem dL_law_806 : decode cL_law 806 = .ok (.iconst 0, 1) := by decide +kernel
theorem dL_law_807 : decode cL_law 807 = .ok (.ireturn, 1) := by decide +kernel
theorem dL_law_808 : decode cL_law 808 = .ok (.goto 739, 3) := by decide +kernel
theorem dL_law_811 : decode cL_law 811 = .ok (.aload_n 1, 1) := by decide +kernel
theorem dL_law_812 : decode cL_law 812 = .ok (.aload_n 0, 1) := by decide +kernel
theorem dL_law_813 : decode cL_law 813 = .ok (.iload 5, 2) := by decide +kernel
theorem dL_law_815 : decode cL_law 815 = .ok (.iconst 1, 1) := by decide +kernel
theorem dL_law_816 : decode cL_law 816 = .ok (.iadd, 1) := by decide +kernel
theorem dL_law_817 : decode cL_law 817 = .ok (.iaload, 1) := by decide +kernel
theorem dL_law_818 : decode cL_law 818 = .ok (.aload_n 3, 1) := by decide +kernel
theorem dL_law_819 : decode cL_law 819 = .ok (.invokestatic 127, 3) := by decide +kernel
theorem dL_law_822 : decode cL_law 822 = .ok (.istore 6, 2) := by decide +kernel
theorem dL_law_824 : decode cL_law 824 = .ok (.aload_n 2, 1) := by decide +kernel
theorem dL_law_825 : decode cL_law 825 = .ok (.aload_n 0, 1) := by decide +kernel
theorem dL_law_826 : decode cL_law 826 = .ok (.iload 5, 2) := by decide +kernel
theorem dL_law_828 : decode cL_law 828 = .ok (.iconst 1, 1) := by decide +kernel
theorem dL_law_829 : decode cL_law 829 = .ok (.iadd, 1) := by decide +kernel
theorem dL_law_830 : decode cL_law 830 = .ok (.iaload, 1) := by decide +kernel
theorem dL_law_831 : decode cL_law 831 = .ok (.invokevirtual 129, 3) := by decide +kernel
theorem dL_law_834 : decode cL_law 834 = .ok (.istore 7, 2) := by decide +kernel
theorem dL_law_836 : decode cL_law 836 = .ok (.aload_n 2, 1) := by decide +kernel
theorem dL_law_837 : decode cL_law 837 = .ok (.invokevirtual 88, 3) := by decide +kernel
theorem dL_law_840 : decode cL_law 840 = .ok (.iload 6, 2) := by decide +kernel
theorem dL_law_842 : decode cL_law 842 = .ok (.if_icmp .eq 5, 3) := by decide +kernel
theorem dL_law_845 : decode cL_law 845 = .ok (.iconst 0, 1) := by decide +kernel
theorem dL_law_846 : decode cL_law 846 = .ok (.ireturn, 1) := by decide +kernel
theorem dL_law_847 : decode cL_law 847 = .ok (.iload 6, 2) := by decide +kernel
theorem dL_law_849 : decode cL_law 849 = .ok (.ifCond .ne 15, 3) := by decide +kernel
theorem dL_law_852 : decode cL_law 852 = .ok (.aload_n 3, 1) := by decide +kernel
theorem dL_law_853 : decode cL_law 853 = .ok (.iconst 0, 1) := by decide +kernel
theorem dL_law_854 : decode cL_law 854 = .ok (.laload, 1) := by decide +kernel
theorem dL_law_855 : decode cL_law 855 = .ok (.iload 7, 2) := by decide +kernel
theorem dL_law_857 : decode cL_law 857 = .ok (.i2l, 1) := by decide +kernel
theorem dL_law_858 : decode cL_law 858 = .ok (.lcmp, 1) := by decide +kernel
theorem dL_law_859 : decode cL_law 859 = .ok (.ifCond .eq 5, 3) := by decide +kernel
theorem dL_law_862 : decode cL_law 862 = .ok (.iconst 0, 1) := by decide +kernel
theorem dL_law_863 : decode cL_law 863 = .ok (.ireturn, 1) := by decide +kernel
theorem dL_law_864 : decode cL_law 864 = .ok (.goto 683, 3) := by decide +kernel
theorem dL_law_867 : decode cL_law 867 = .ok (.aload_n 1, 1) := by decide +kernel
theorem dL_law_868 : decode cL_law 868 = .ok (.aload_n 0, 1) := by decide +kernel
theorem dL_law_869 : decode cL_law 869 = .ok (.iload 5, 2) := by decide +kernel
theorem dL_law_871 : decode cL_law 871 = .ok (.iconst 1, 1) := by decide +kernel
theorem dL_law_872 : decode cL_law 872 = .ok (.iadd, 1) := by decide +kernel
theorem dL_law_873 : decode cL_law 873 = .ok (.iaload, 1) := by decide +kernel
theorem dL_law_874 : decode cL_law 874 = .ok (.aload_n 3, 1) := by decide +kernel
theorem dL_law_875 : decode cL_law 875 = .ok (.invokestatic 130, 3) := by decide +kernel
theorem dL_law_878 : decode cL_law 878 = .ok (.istore 6, 2) := by decide +kernel
theorem dL_law_880 : decode cL_law 880 = .ok (.aload_n 2, 1) := by decide +kernel
theorem dL_law_881 : decode cL_law 881 = .ok (.aload_n 0, 1) := by decide +kernel
theorem dL_law_882 : decode cL_law 882 = .ok (.iload 5, 2) := by decide +kernel
theorem dL_law_884 : decode cL_law 884 = .ok (.iconst 1, 1) := by decide +kernel
theorem dL_law_885 : decode cL_law 885 = .ok (.iadd, 1) := by decide +kernel
theorem dL_law_886 : decode cL_law 886 = .ok (.iaload, 1) := by decide +kernel
theorem dL_law_887 : decode cL_law 887 = .ok (.invokevirtual 132, 3) := by decide +kernel
theorem dL_law_890 : decode cL_law 890 = .ok (.istore 7, 2) := by decide +kernel
theorem dL_law_892 : decode cL_law 892 = .ok (.aload_n 2, 1) := by decide +kernel
theorem dL_law_893 : decode cL_law 893 = .ok (.invokevirtual 88, 3) := by decide +kernel
theorem dL_law_896 : decode cL_law 896 = .ok (.iload 6, 2) := by decide +kernel
theorem dL_law_898 : decode cL_law 898 = .ok (.if_icmp .eq 5, 3) := by decide +kernel
theorem dL_law_901 : decode cL_law 901 = .ok (.iconst 0, 1) := by decide +kernel
theorem dL_law_902 : decode cL_law 902 = .ok (.ireturn, 1) := by decide +kernel
theorem dL_law_903 : decode cL_law 903 = .ok (.iload 6, 2) := by decide +kernel
theorem dL_law_905 : decode cL_law 905 = .ok (.ifCond .ne 15, 3) := by decide +kernel
theorem dL_law_908 : decode cL_law 908 = .ok (.aload_n 3, 1) := by decide +kernel
theorem dL_law_909 : decode cL_law 909 = .ok (.iconst 0, 1) := by decide +kernel
theorem dL_law_910 : decode cL_law 910 = .ok (.laload, 1) := by decide +kernel
theorem dL_law_911 : decode cL_law 911 = .ok (.iload 7, 2) := by decide +kernel
theorem dL_law_913 : decode cL_law 913 = .ok (.i2l, 1) := by decide +kernel
theorem dL_law_914 : decode cL_law 914 = .ok (.lcmp, 1) := by decide +kernel
theorem dL_law_915 : decode cL_law 915 = .ok (.ifCond .eq 5, 3) := by decide +kernel
theorem dL_law_918 : decode cL_law 918 = .ok (.iconst 0, 1) := by decide +kernel
theorem dL_law_919 : decode cL_law 919 = .ok (.ireturn, 1) := by decide +kernel
theorem dL_law_920 : decode cL_law 920 = .ok (.goto 627, 3) := by decide +kernel
theorem dL_law_923 : decode cL_law 923 = .ok (.aload_n 1, 1) := by decide +kernel
theorem dL_law_924 : decode cL_law 924 = .ok (.aload_n 0, 1) := by decide +kernel
theorem dL_law_925 : decode cL_law 925 = .ok (.iload 5, 2) := by decide +kernel
theorem dL_law_927 : decode cL_law 927 = .ok (.iconst 1, 1) := by decide +kernel
theorem dL_law_928 : decode cL_law 928 = .ok (.iadd, 1) := by decide +kernel
theorem dL_law_929 : decode cL_law 929 = .ok (.iaload, 1) := by decide +kernel
theorem dL_law_930 : decode cL_law 930 = .ok (.aload_n 3, 1) := by decide +kernel
theorem dL_law_931 : decode cL_law 931 = .ok (.invokestatic 133, 3) := by decide +kernel
theorem dL_law_934 : decode cL_law 934 = .ok (.istore 6, 2) := by decide +kernel
theorem dL_law_936 : decode cL_law 936 = .ok (.aload_n 2, 1) := by decide +kernel
theorem dL_law_937 : decode cL_law 937 = .ok (.aload_n 0, 1) := by decide +kernel
theorem dL_law_938 : decode cL_law 938 = .ok (.iload 5, 2) := by decide +kernel
theorem dL_law_940 : decode cL_law 940 = .ok (.iconst 1, 1) := by decide +kernel
theorem dL_law_941 : decode cL_law 941 = .ok (.iadd, 1) := by decide +kernel
theorem dL_law_942 : decode cL_law 942 = .ok (.iaload, 1) := by decide +kernel
theorem dL_law_943 : decode cL_law 943 = .ok (.invokevirtual 135, 3) := by decide +kernel
theorem dL_law_946 : decode cL_law 946 = .ok (.istore 7, 2) := by decide +kernel
theorem dL_law_948 : decode cL_law 948 = .ok (.aload_n 2, 1) := by decide +kernel
theorem dL_law_949 : decode cL_law 949 = .ok (.invokevirtual 88, 3) := by decide +kernel
theorem dL_law_952 : decode cL_law 952 = .ok (.iload 6, 2) := by decide +kernel
theorem dL_law_954 : decode cL_law 954 = .ok (.if_icmp .eq 5, 3) := by decide +kernel
theorem dL_law_957 : decode cL_law 957 = .ok (.iconst 0, 1) := by decide +kernel
theorem dL_law_958 : decode cL_law 958 = .ok (.ireturn, 1) := by decide +kernel
theorem dL_law_959 : decode cL_law 959 = .ok (.iload 6, 2) := by decide +kernel
theorem dL_law_961 : decode cL_law 961 = .ok (.ifCond .ne 15, 3) := by decide +kernel
theorem dL_law_964 : decode cL_law 964 = .ok (.aload_n 3, 1) := by decide +kernel
theorem dL_law_965 : decode cL_law 965 = .ok (.iconst 0, 1) := by decide +kernel
theorem dL_law_966 : decode cL_law 966 = .ok (.laload, 1) := by decide +kernel
theorem dL_law_967 : decode cL_law 967 = .ok (.iload 7, 2) := by decide +kernel
theorem dL_law_969 : decode cL_law 969 = .ok (.i2l, 1) := by decide +kernel
theorem dL_law_970 : decode cL_law 970 = .ok (.lcmp, 1) := by decide +kernel
theorem dL_law_971 : decode cL_law 971 = .ok (.ifCond .eq 5, 3) := by decide +kernel
theorem dL_law_974 : decode cL_law 974 = .ok (.iconst 0, 1) := by decide +kernel
theorem dL_law_975 : decode cL_law 975 = .ok (.ireturn, 1) := by decide +kernel
theorem dL_law_976 : decode cL_law 976 = .ok (.goto 571, 3) := by decide +kernel
theorem dL_law_979 : decode cL_law 979 = .ok (.aload_n 1, 1) := by decide +kernel
theorem dL_law_980 : decode cL_law 980 = .ok (.invokevirtual 136, 3) := by decide +kernel
theorem dL_law_983 : decode cL_law 983 = .ok (.aload_n 2, 1) := by decide +kernel
theorem dL_law_984 : decode cL_law 984 = .ok (.invokevirtual 139, 3) := by decide +kernel
theorem dL_law_987 : decode cL_law 987 = .ok (.if_icmp .eq 560, 3) := by decide +kernel
theorem dL_law_990 : decode cL_law 990 = .ok (.iconst 0, 1) := by decide +kernel
theorem dL_law_991 : decode cL_law 991 = .ok (.ireturn, 1) := by decide +kernel
theorem dL_law_992 : decode cL_law 992 = .ok (.aload_n 1, 1) := by decide +kernel
theorem dL_law_993 : decode cL_law 993 = .ok (.aload_n 0, 1) := by decide +kernel
theorem dL_law_994 : decode cL_law 994 = .ok (.iload 5, 2) := by decide +kernel
theorem dL_law_996 : decode cL_law 996 = .ok (.iconst 1, 1) := by decide +kernel
theorem dL_law_997 : decode cL_law 997 = .ok (.iadd, 1) := by decide +kernel
theorem dL_law_998 : decode cL_law 998 = .ok (.iaload, 1) := by decide +kernel
theorem dL_law_999 : decode cL_law 999 = .ok (.aload_n 3, 1) := by decide +kernel
theorem dL_law_1000 : decode cL_law 1000 = .ok (.invokestatic 140, 3) := by decide +kernel
theorem dL_law_1003 : decode cL_law 1003 = .ok (.istore 6, 2) := by decide +kernel
theorem dL_law_1005 : decode cL_law 1005 = .ok (.aload_n 2, 1) := by decide +kernel
theorem dL_law_1006 : decode cL_law 1006 = .ok (.aload_n 0, 1) := by decide +kernel
theorem dL_law_1007 : decode cL_law 1007 = .ok (.iload 5, 2) := by decide +kernel
theorem dL_law_1009 : decode cL_law 1009 = .ok (.iconst 1, 1) := by decide +kernel
theorem dL_law_1010 : decode cL_law 1010 = .ok (.iadd, 1) := by decide +kernel
theorem dL_law_1011 : decode cL_law 1011 = .ok (.iaload, 1) := by decide +kernel
theorem dL_law_1012 : decode cL_law 1012 = .ok (.invokevirtual 142, 3) := by decide +kernel
theorem dL_law_1015 : decode cL_law 1015 = .ok (.istore 7, 2) := by decide +kernel
theorem dL_law_1017 : decode cL_law 1017 = .ok (.aload_n 2, 1) := by decide +kernel
theorem dL_law_1018 : decode cL_law 1018 = .ok (.invokevirtual 88, 3) := by decide +kernel
theorem dL_law_1021 : decode cL_law 1021 = .ok (.iload 6, 2) := by decide +kernel
theorem dL_law_1023 : decode cL_law 1023 = .ok (.if_icmp .eq 5, 3) := by decide +kernel
theorem dL_law_1026 : decode cL_law 1026 = .ok (.iconst 0, 1) := by decide +kernel
theorem dL_law_1027 : decode cL_law 1027 = .ok (.ireturn, 1) := by decide +kernel
theorem dL_law_1028 : decode cL_law 1028 = .ok (.iload 6, 2) := by decide +kernel
theorem dL_law_1030 : decode cL_law 1030 = .ok (.ifCond .ne 15, 3) := by decide +kernel
theorem dL_law_1033 : decode cL_law 1033 = .ok (.aload_n 3, 1) := by decide +kernel
theorem dL_law_1034 : decode cL_law 1034 = .ok (.iconst 0, 1) := by decide +kernel
theorem dL_law_1035 : decode cL_law 1035 = .ok (.laload, 1) := by decide +kernel
theorem dL_law_1036 : decode cL_law 1036 = .ok (.iload 7, 2) := by decide +kernel
theorem dL_law_1038 : decode cL_law 1038 = .ok (.i2l, 1) := by decide +kernel
theorem dL_law_1039 : decode cL_law 1039 = .ok (.lcmp, 1) := by decide +kernel
theorem dL_law_1040 : decode cL_law 1040 = .ok (.ifCond .eq 5, 3) := by decide +kernel
theorem dL_law_1043 : decode cL_law 1043 = .ok (.iconst 0, 1) := by decide +kernel
theorem dL_law_1044 : decode cL_law 1044 = .ok (.ireturn, 1) := by decide +kernel
theorem dL_law_1045 : decode cL_law 1045 = .ok (.goto 502, 3) := by decide +kernel
theorem dL_law_1048 : decode cL_law 1048 = .ok (.aload_n 1, 1) := by decide +kernel
theorem dL_law_1049 : decode cL_law 1049 = .ok (.aload_n 0, 1) := by decide +kernel
theorem dL_law_1050 : decode cL_law 1050 = .ok (.iload 5, 2) := by decide +kernel
theorem dL_law_1052 : decode cL_law 1052 = .ok (.iconst 1, 1) := by decide +kernel
theorem dL_law_1053 : decode cL_law 1053 = .ok (.iadd, 1) := by decide +kernel
theorem dL_law_1054 : decode cL_law 1054 = .ok (.iaload, 1) := by decide +kernel
theorem dL_law_1055 : decode cL_law 1055 = .ok (.aload_n 0, 1) := by decide +kernel
theorem dL_law_1056 : decode cL_law 1056 = .ok (.iload 5, 2) := by decide +kernel
theorem dL_law_1058 : decode cL_law 1058 = .ok (.iconst 2, 1) := by decide +kernel
theorem dL_law_1059 : decode cL_law 1059 = .ok (.iadd, 1) := by decide +kernel
theorem dL_law_1060 : decode cL_law 1060 = .ok (.iaload, 1) := by decide +kernel
theorem dL_law_1061 : decode cL_law 1061 = .ok (.aload_n 3, 1) := by decide +kernel
theorem dL_law_1062 : decode cL_law 1062 = .ok (.invokestatic 143, 3) := by decide +kernel
theorem dL_law_1065 : decode cL_law 1065 = .ok (.istore 6, 2) := by decide +kernel
theorem dL_law_1067 : decode cL_law 1067 = .ok (.aload_n 2, 1) := by decide +kernel
theorem dL_law_1068 : decode cL_law 1068 = .ok (.aload_n 0, 1) := by decide +kernel
theorem dL_law_1069 : decode cL_law 1069 = .ok (.iload 5, 2) := by decide +kernel
theorem dL_law_1071 : decode cL_law 1071 = .ok (.iconst 1, 1) := by decide +kernel
theorem dL_law_1072 : decode cL_law 1072 = .ok (.iadd, 1) := by decide +kernel
theorem dL_law_1073 : decode cL_law 1073 = .ok (.iaload, 1) := by decide +kernel
theorem dL_law_1074 : decode cL_law 1074 = .ok (.aload_n 0, 1) := by decide +kernel
theorem dL_law_1075 : decode cL_law 1075 = .ok (.iload 5, 2) := by decide +kernel
theorem dL_law_1077 : decode cL_law 1077 = .ok (.iconst 2, 1) := by decide +kernel
theorem dL_law_1078 : decode cL_law 1078 = .ok (.iadd, 1) := by decide +kernel
theorem dL_law_1079 : decode cL_law 1079 = .ok (.iaload, 1) := by decide +kernel
theorem dL_law_1080 : decode cL_law 1080 = .ok (.invokevirtual 145, 3) := by decide +kernel
theorem dL_law_1083 : decode cL_law 1083 = .ok (.istore 7, 2) := by decide +kernel
theorem dL_law_1085 : decode cL_law 1085 = .ok (.aload_n 2, 1) := by decide +kernel
theorem dL_law_1086 : decode cL_law 1086 = .ok (.invokevirtual 88, 3) := by decide +kernel
theorem dL_law_1089 : decode cL_law 1089 = .ok (.iload 6, 2) := by decide +kernel
theorem dL_law_1091 : decode cL_law 1091 = .ok (.if_icmp .eq 5, 3) := by decide +kernel
theorem dL_law_1094 : decode cL_law 1094 = .ok (.iconst 0, 1) := by decide +kernel
theorem dL_law_1095 : decode cL_law 1095 = .ok (.ireturn, 1) := by decide +kernel
theorem dL_law_1096 : decode cL_law 1096 = .ok (.iload 6, 2) := by decide +kernel
theorem dL_law_1098 : decode cL_law 1098 = .ok (.ifCond .ne 15, 3) := by decide +kernel
theorem dL_law_1101 : decode cL_law 1101 = .ok (.aload_n 3, 1) := by decide +kernel
theorem dL_law_1102 : decode cL_law 1102 = .ok (.iconst 0, 1) := by decide +kernel
theorem dL_law_1103 : decode cL_law 1103 = .ok (.laload, 1) := by decide +kernel
theorem dL_law_1104 : decode cL_law 1104 = .ok (.iload 7, 2) := by decide +kernel
theorem dL_law_1106 : decode cL_law 1106 = .ok (.i2l, 1) := by decide +kernel
theorem dL_law_1107 : decode cL_law 1107 = .ok (.lcmp, 1) := by decide +kernel
theorem dL_law_1108 : decode cL_law 1108 = .ok (.ifCond .eq 5, 3) := by decide +kernel
theorem dL_law_1111 : decode cL_law 1111 = .ok (.iconst 0, 1) := by decide +kernel
theorem dL_law_1112 : decode cL_law 1112 = .ok (.ireturn, 1) := by decide +kernel
theorem dL_law_1113 : decode cL_law 1113 = .ok (.goto 434, 3) := by decide +kernel
theorem dL_law_1116 : decode cL_law 1116 = .ok (.aload_n 1, 1) := by decide +kernel
theorem dL_law_1117 : decode cL_law 1117 = .ok (.aload_n 0, 1) := by decide +kernel
theorem dL_law_1118 : decode cL_law 1118 = .ok (.iload 5, 2) := by decide +kernel
theorem dL_law_1120 : decode cL_law 1120 = .ok (.iconst 1, 1) := by decide +kernel
theorem dL_law_1121 : decode cL_law 1121 = .ok (.iadd, 1) := by decide +kernel
theorem dL_law_1122 : decode cL_law 1122 = .ok (.iaload, 1) := by decide +kernel
theorem dL_law_1123 : decode cL_law 1123 = .ok (.aload_n 3, 1) := by decide +kernel
theorem dL_law_1124 : decode cL_law 1124 = .ok (.invokestatic 146, 3) := by decide +kernel
theorem dL_law_1127 : decode cL_law 1127 = .ok (.istore 6, 2) := by decide +kernel
theorem dL_law_1129 : decode cL_law 1129 = .ok (.aload_n 2, 1) := by decide +kernel
theorem dL_law_1130 : decode cL_law 1130 = .ok (.aload_n 0, 1) := by decide +kernel
theorem dL_law_1131 : decode cL_law 1131 = .ok (.iload 5, 2) := by decide +kernel
theorem dL_law_1133 : decode cL_law 1133 = .ok (.iconst 1, 1) := by decide +kernel
theorem dL_law_1134 : decode cL_law 1134 = .ok (.iadd, 1) := by decide +kernel
theorem dL_law_1135 : decode cL_law 1135 = .ok (.iaload, 1) := by decide +kernel
theorem dL_law_1136 : decode cL_law 1136 = .ok (.invokevirtual 148, 3) := by decide +kernel
theorem dL_law_1139 : decode cL_law 1139 = .ok (.istore 7, 2) := by decide +kernel
theorem dL_law_1141 : decode cL_law 1141 = .ok (.aload_n 2, 1) := by decide +kernel
theorem dL_law_1142 : decode cL_law 1142 = .ok (.invokevirtual 88, 3) := by decide +kernel
theorem dL_law_1145 : decode cL_law 1145 = .ok (.iload 6, 2) := by decide +kernel
theorem dL_law_1147 : decode cL_law 1147 = .ok (.if_icmp .eq 5, 3) := by decide +kernel
