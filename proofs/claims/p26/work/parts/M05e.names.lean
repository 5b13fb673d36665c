theorem dL_isSo_723 : decode cL_isSo 723 = .ok (.iconst 0, 1) := by decide +kernel
theorem dL_isSo_724 : decode cL_isSo 724 = .ok (.istore 11, 2) := by decide +kernel
theorem dL_isSo_726 : decode cL_isSo 726 = .ok (.iload 21, 2) := by decide +kernel
theorem dL_isSo_728 : decode cL_isSo 728 = .ok (.aload_n 2, 1) := by decide +kernel
theorem dL_isSo_729 : decode cL_isSo 729 = .ok (.iload 22, 2) := by decide +kernel
theorem dL_isSo_731 : decode cL_isSo 731 = .ok (.invokestatic 15, 3) := by decide +kernel
theorem dL_isSo_734 : decode cL_isSo 734 = .ok (.iconst 2, 1) := by decide +kernel
theorem dL_isSo_735 : decode cL_isSo 735 = .ok (.iadd, 1) := by decide +kernel
theorem dL_isSo_736 : decode cL_isSo 736 = .ok (.iadd, 1) := by decide +kernel
theorem dL_isSo_737 : decode cL_isSo 737 = .ok (.istore 21, 2) := by decide +kernel
theorem dL_isSo_739 : decode cL_isSo 739 = .ok (.iload 6, 2) := by decide +kernel
theorem dL_isSo_741 : decode cL_isSo 741 = .ok (.aload_n 1, 1) := by decide +kernel
theorem dL_isSo_742 : decode cL_isSo 742 = .ok (.aload_n 2, 1) := by decide +kernel
theorem dL_isSo_743 : decode cL_isSo 743 = .ok (.iload 22, 2) := by decide +kernel
theorem dL_isSo_745 : decode cL_isSo 745 = .ok (.invokestatic 19, 3) := by decide +kernel
theorem dL_isSo_748 : decode cL_isSo 748 = .ok (.ifCond .eq 7, 3) := by decide +kernel
theorem dL_isSo_751 : decode cL_isSo 751 = .ok (.iconst 1, 1) := by decide +kernel
theorem dL_isSo_752 : decode cL_isSo 752 = .ok (.goto 4, 3) := by decide +kernel
theorem dL_isSo_755 : decode cL_isSo 755 = .ok (.iconst 0, 1) := by decide +kernel
theorem dL_isSo_756 : decode cL_isSo 756 = .ok (.iadd, 1) := by decide +kernel
theorem dL_isSo_757 : decode cL_isSo 757 = .ok (.istore 6, 2) := by decide +kernel
theorem dL_isSo_759 : decode cL_isSo 759 = .ok (.iinc 22 1, 3) := by decide +kernel
theorem dL_isSo_762 : decode cL_isSo 762 = .ok (.goto (-200), 3) := by decide +kernel
theorem dL_isSo_765 : decode cL_isSo 765 = .ok (.iinc 13 1, 3) := by decide +kernel
theorem dL_isSo_768 : decode cL_isSo 768 = .ok (.goto (-614), 3) := by decide +kernel
theorem dL_isSo_771 : decode cL_isSo 771 = .ok (.iconst 0, 1) := by decide +kernel
theorem dL_isSo_772 : decode cL_isSo 772 = .ok (.istore 13, 2) := by decide +kernel
theorem dL_isSo_774 : decode cL_isSo 774 = .ok (.iload 13, 2) := by decide +kernel
theorem dL_isSo_776 : decode cL_isSo 776 = .ok (.aload 4, 2) := by decide +kernel
theorem dL_isSo_778 : decode cL_isSo 778 = .ok (.iconst 1, 1) := by decide +kernel
theorem dL_isSo_779 : decode cL_isSo 779 = .ok (.iaload, 1) := by decide +kernel
theorem dL_isSo_780 : decode cL_isSo 780 = .ok (.if_icmp .ge 241, 3) := by decide +kernel
theorem dL_isSo_783 : decode cL_isSo 783 = .ok (.iload 11, 2) := by decide +kernel
theorem dL_isSo_785 : decode cL_isSo 785 = .ok (.ifCond .eq 236, 3) := by decide +kernel
theorem dL_isSo_788 : decode cL_isSo 788 = .ok (.iconst (-1), 1) := by decide +kernel
theorem dL_isSo_789 : decode cL_isSo 789 = .ok (.istore 14, 2) := by decide +kernel
theorem dL_isSo_791 : decode cL_isSo 791 = .ok (.iconst 0, 1) := by decide +kernel
theorem dL_isSo_792 : decode cL_isSo 792 = .ok (.istore 15, 2) := by decide +kernel
theorem dL_isSo_794 : decode cL_isSo 794 = .ok (.iconst 0, 1) := by decide +kernel
theorem dL_isSo_795 : decode cL_isSo 795 = .ok (.istore 16, 2) := by decide +kernel
theorem dL_isSo_797 : decode cL_isSo 797 = .ok (.iconst 0, 1) := by decide +kernel
theorem dL_isSo_798 : decode cL_isSo 798 = .ok (.istore 17, 2) := by decide +kernel
theorem dL_isSo_800 : decode cL_isSo 800 = .ok (.iconst 0, 1) := by decide +kernel
theorem dL_isSo_801 : decode cL_isSo 801 = .ok (.istore 18, 2) := by decide +kernel
theorem dL_isSo_803 : decode cL_isSo 803 = .ok (.iload 18, 2) := by decide +kernel
theorem dL_isSo_805 : decode cL_isSo 805 = .ok (.aload 4, 2) := by decide +kernel
theorem dL_isSo_807 : decode cL_isSo 807 = .ok (.iconst 0, 1) := by decide +kernel
theorem dL_isSo_808 : decode cL_isSo 808 = .ok (.iaload, 1) := by decide +kernel
theorem dL_isSo_809 : decode cL_isSo 809 = .ok (.if_icmp .ge 118, 3) := by decide +kernel
theorem dL_isSo_812 : decode cL_isSo 812 = .ok (.aload 4, 2) := by decide +kernel
theorem dL_isSo_814 : decode cL_isSo 814 = .ok (.iconst 2, 1) := by decide +kernel
theorem dL_isSo_815 : decode cL_isSo 815 = .ok (.iload 18, 2) := by decide +kernel
theorem dL_isSo_817 : decode cL_isSo 817 = .ok (.iadd, 1) := by decide +kernel
theorem dL_isSo_818 : decode cL_isSo 818 = .ok (.iaload, 1) := by decide +kernel
theorem dL_isSo_819 : decode cL_isSo 819 = .ok (.iload 13, 2) := by decide +kernel
theorem dL_isSo_821 : decode cL_isSo 821 = .ok (.if_icmp .ne 7, 3) := by decide +kernel
theorem dL_isSo_824 : decode cL_isSo 824 = .ok (.iconst 1, 1) := by decide +kernel
theorem dL_isSo_825 : decode cL_isSo 825 = .ok (.goto 4, 3) := by decide +kernel
theorem dL_isSo_828 : decode cL_isSo 828 = .ok (.iconst 0, 1) := by decide +kernel
theorem dL_isSo_829 : decode cL_isSo 829 = .ok (.istore 19, 2) := by decide +kernel
theorem dL_isSo_831 : decode cL_isSo 831 = .ok (.iload 19, 2) := by decide +kernel
theorem dL_isSo_833 : decode cL_isSo 833 = .ok (.ifCond .eq 13, 3) := by decide +kernel
theorem dL_isSo_836 : decode cL_isSo 836 = .ok (.iload 14, 2) := by decide +kernel
theorem dL_isSo_838 : decode cL_isSo 838 = .ok (.ifCond .ge 8, 3) := by decide +kernel
theorem dL_isSo_841 : decode cL_isSo 841 = .ok (.iload 18, 2) := by decide +kernel
theorem dL_isSo_843 : decode cL_isSo 843 = .ok (.goto 5, 3) := by decide +kernel
theorem dL_isSo_846 : decode cL_isSo 846 = .ok (.iload 14, 2) := by decide +kernel
theorem dL_isSo_848 : decode cL_isSo 848 = .ok (.istore 14, 2) := by decide +kernel
theorem dL_isSo_850 : decode cL_isSo 850 = .ok (.iload 15, 2) := by decide +kernel
theorem dL_isSo_852 : decode cL_isSo 852 = .ok (.iload 19, 2) := by decide +kernel
theorem dL_isSo_854 : decode cL_isSo 854 = .ok (.ifCond .eq 7, 3) := by decide +kernel
theorem dL_isSo_857 : decode cL_isSo 857 = .ok (.iconst 1, 1) := by decide +kernel
theorem dL_isSo_858 : decode cL_isSo 858 = .ok (.goto 4, 3) := by decide +kernel
theorem dL_isSo_861 : decode cL_isSo 861 = .ok (.iconst 0, 1) := by decide +kernel
theorem dL_isSo_862 : decode cL_isSo 862 = .ok (.iadd, 1) := by decide +kernel
theorem dL_isSo_863 : decode cL_isSo 863 = .ok (.istore 15, 2) := by decide +kernel
theorem dL_isSo_865 : decode cL_isSo 865 = .ok (.iload 16, 2) := by decide +kernel
theorem dL_isSo_867 : decode cL_isSo 867 = .ok (.iload 19, 2) := by decide +kernel
theorem dL_isSo_869 : decode cL_isSo 869 = .ok (.ifCond .eq 25, 3) := by decide +kernel
theorem dL_isSo_872 : decode cL_isSo 872 = .ok (.aload_n 3, 1) := by decide +kernel
theorem dL_isSo_873 : decode cL_isSo 873 = .ok (.bipush 6, 2) := by decide +kernel
theorem dL_isSo_875 : decode cL_isSo 875 = .ok (.iload 18, 2) := by decide +kernel
theorem dL_isSo_877 : decode cL_isSo 877 = .ok (.imul, 1) := by decide +kernel
theorem dL_isSo_878 : decode cL_isSo 878 = .ok (.iconst 2, 1) := by decide +kernel
theorem dL_isSo_879 : decode cL_isSo 879 = .ok (.iadd, 1) := by decide +kernel
theorem dL_isSo_880 : decode cL_isSo 880 = .ok (.iaload, 1) := by decide +kernel
theorem dL_isSo_881 : decode cL_isSo 881 = .ok (.aload_n 3, 1) := by decide +kernel
theorem dL_isSo_882 : decode cL_isSo 882 = .ok (.bipush 6, 2) := by decide +kernel
theorem dL_isSo_884 : decode cL_isSo 884 = .ok (.iload 18, 2) := by decide +kernel
theorem dL_isSo_886 : decode cL_isSo 886 = .ok (.imul, 1) := by decide +kernel
theorem dL_isSo_887 : decode cL_isSo 887 = .ok (.iconst 3, 1) := by decide +kernel
theorem dL_isSo_888 : decode cL_isSo 888 = .ok (.iadd, 1) := by decide +kernel
theorem dL_isSo_889 : decode cL_isSo 889 = .ok (.iaload, 1) := by decide +kernel
theorem dL_isSo_890 : decode cL_isSo 890 = .ok (.iadd, 1) := by decide +kernel
theorem dL_isSo_891 : decode cL_isSo 891 = .ok (.goto 4, 3) := by decide +kernel
theorem dL_isSo_894 : decode cL_isSo 894 = .ok (.iconst 0, 1) := by decide +kernel
theorem dL_isSo_895 : decode cL_isSo 895 = .ok (.iadd, 1) := by decide +kernel
theorem dL_isSo_896 : decode cL_isSo 896 = .ok (.istore 16, 2) := by decide +kernel
theorem dL_isSo_898 : decode cL_isSo 898 = .ok (.iload 17, 2) := by decide +kernel
theorem dL_isSo_900 : decode cL_isSo 900 = .ok (.iload 19, 2) := by decide +kernel
theorem dL_isSo_902 : decode cL_isSo 902 = .ok (.ifCond .eq 15, 3) := by decide +kernel
theorem dL_isSo_905 : decode cL_isSo 905 = .ok (.aload_n 3, 1) := by decide +kernel
theorem dL_isSo_906 : decode cL_isSo 906 = .ok (.bipush 6, 2) := by decide +kernel
theorem dL_isSo_908 : decode cL_isSo 908 = .ok (.iload 18, 2) := by decide +kernel
theorem dL_isSo_910 : decode cL_isSo 910 = .ok (.imul, 1) := by decide +kernel
theorem dL_isSo_911 : decode cL_isSo 911 = .ok (.iconst 4, 1) := by decide +kernel
theorem dL_isSo_912 : decode cL_isSo 912 = .ok (.iadd, 1) := by decide +kernel
theorem dL_isSo_913 : decode cL_isSo 913 = .ok (.iaload, 1) := by decide +kernel
theorem dL_isSo_914 : decode cL_isSo 914 = .ok (.goto 4, 3) := by decide +kernel
theorem dL_isSo_917 : decode cL_isSo 917 = .ok (.iconst 0, 1) := by decide +kernel
theorem dL_isSo_918 : decode cL_isSo 918 = .ok (.iadd, 1) := by decide +kernel
theorem dL_isSo_919 : decode cL_isSo 919 = .ok (.istore 17, 2) := by decide +kernel
theorem dL_isSo_921 : decode cL_isSo 921 = .ok (.iinc 18 1, 3) := by decide +kernel
theorem dL_isSo_924 : decode cL_isSo 924 = .ok (.goto (-121), 3) := by decide +kernel
theorem dL_isSo_927 : decode cL_isSo 927 = .ok (.aload_n 0, 1) := by decide +kernel
theorem dL_isSo_928 : decode cL_isSo 928 = .ok (.iload 13, 2) := by decide +kernel
theorem dL_isSo_930 : decode cL_isSo 930 = .ok (.iconst 0, 1) := by decide +kernel
theorem dL_isSo_931 : decode cL_isSo 931 = .ok (.invokestatic 129, 3) := by decide +kernel
theorem dL_isSo_934 : decode cL_isSo 934 = .ok (.iload 14, 2) := by decide +kernel
theorem dL_isSo_936 : decode cL_isSo 936 = .ok (.if_icmp .ne 76, 3) := by decide +kernel
theorem dL_isSo_939 : decode cL_isSo 939 = .ok (.aload_n 0, 1) := by decide +kernel
theorem dL_isSo_940 : decode cL_isSo 940 = .ok (.iload 13, 2) := by decide +kernel
theorem dL_isSo_942 : decode cL_isSo 942 = .ok (.iconst 1, 1) := by decide +kernel
theorem dL_isSo_943 : decode cL_isSo 943 = .ok (.invokestatic 129, 3) := by decide +kernel
theorem dL_isSo_946 : decode cL_isSo 946 = .ok (.iload 15, 2) := by decide +kernel
theorem dL_isSo_948 : decode cL_isSo 948 = .ok (.if_icmp .ne 64, 3) := by decide +kernel
theorem dL_isSo_951 : decode cL_isSo 951 = .ok (.aload_n 0, 1) := by decide +kernel
theorem dL_isSo_952 : decode cL_isSo 952 = .ok (.iload 13, 2) := by decide +kernel
theorem dL_isSo_954 : decode cL_isSo 954 = .ok (.iconst 2, 1) := by decide +kernel
theorem dL_isSo_955 : decode cL_isSo 955 = .ok (.invokestatic 129, 3) := by decide +kernel
theorem dL_isSo_958 : decode cL_isSo 958 = .ok (.iload 16, 2) := by decide +kernel
theorem dL_isSo_960 : decode cL_isSo 960 = .ok (.if_icmp .ne 52, 3) := by decide +kernel
theorem dL_isSo_963 : decode cL_isSo 963 = .ok (.aload_n 0, 1) := by decide +kernel
theorem dL_isSo_964 : decode cL_isSo 964 = .ok (.iload 13, 2) := by decide +kernel
theorem dL_isSo_966 : decode cL_isSo 966 = .ok (.iconst 3, 1) := by decide +kernel
theorem dL_isSo_967 : decode cL_isSo 967 = .ok (.invokestatic 129, 3) := by decide +kernel
theorem dL_isSo_970 : decode cL_isSo 970 = .ok (.iload 17, 2) := by decide +kernel
theorem dL_isSo_972 : decode cL_isSo 972 = .ok (.if_icmp .ne 40, 3) := by decide +kernel
theorem dL_isSo_975 : decode cL_isSo 975 = .ok (.aload_n 0, 1) := by decide +kernel
theorem dL_isSo_976 : decode cL_isSo 976 = .ok (.iload 13, 2) := by decide +kernel
theorem dL_isSo_978 : decode cL_isSo 978 = .ok (.iconst 4, 1) := by decide +kernel
theorem dL_isSo_979 : decode cL_isSo 979 = .ok (.invokestatic 129, 3) := by decide +kernel
theorem dL_isSo_982 : decode cL_isSo 982 = .ok (.iload 16, 2) := by decide +kernel
theorem dL_isSo_984 : decode cL_isSo 984 = .ok (.iload 17, 2) := by decide +kernel
theorem dL_isSo_986 : decode cL_isSo 986 = .ok (.isub, 1) := by decide +kernel
theorem dL_isSo_987 : decode cL_isSo 987 = .ok (.if_icmp .ne 25, 3) := by decide +kernel
theorem dL_isSo_990 : decode cL_isSo 990 = .ok (.aload_n 0, 1) := by decide +kernel
theorem dL_isSo_991 : decode cL_isSo 991 = .ok (.iload 13, 2) := by decide +kernel
theorem dL_isSo_993 : decode cL_isSo 993 = .ok (.iconst 5, 1) := by decide +kernel
theorem dL_isSo_994 : decode cL_isSo 994 = .ok (.invokestatic 129, 3) := by decide +kernel
theorem dL_isSo_997 : decode cL_isSo 997 = .ok (.aload 4, 2) := by decide +kernel
theorem dL_isSo_999 : decode cL_isSo 999 = .ok (.bipush 12, 2) := by decide +kernel
theorem dL_isSo_1001 : decode cL_isSo 1001 = .ok (.iload 13, 2) := by decide +kernel
theorem dL_isSo_1003 : decode cL_isSo 1003 = .ok (.iadd, 1) := by decide +kernel
theorem dL_isSo_1004 : decode cL_isSo 1004 = .ok (.iaload, 1) := by decide +kernel
theorem dL_isSo_1005 : decode cL_isSo 1005 = .ok (.if_icmp .ne 7, 3) := by decide +kernel
theorem dL_isSo_1008 : decode cL_isSo 1008 = .ok (.iconst 1, 1) := by decide +kernel
theorem dL_isSo_1009 : decode cL_isSo 1009 = .ok (.goto 4, 3) := by decide +kernel
theorem dL_isSo_1012 : decode cL_isSo 1012 = .ok (.iconst 0, 1) := by decide +kernel
theorem dL_isSo_1013 : decode cL_isSo 1013 = .ok (.istore 11, 2) := by decide +kernel
theorem dL_isSo_1015 : decode cL_isSo 1015 = .ok (.iinc 13 1, 3) := by decide +kernel
theorem dL_isSo_1018 : decode cL_isSo 1018 = .ok (.goto (-244), 3) := by decide +kernel
theorem dL_isSo_1021 : decode cL_isSo 1021 = .ok (.aload 4, 2) := by decide +kernel
theorem dL_isSo_1023 : decode cL_isSo 1023 = .ok (.iconst 0, 1) := by decide +kernel
theorem dL_isSo_1024 : decode cL_isSo 1024 = .ok (.iaload, 1) := by decide +kernel
theorem dL_isSo_1025 : decode cL_isSo 1025 = .ok (.ifCond .ne 7, 3) := by decide +kernel
theorem dL_isSo_1028 : decode cL_isSo 1028 = .ok (.dconst 0, 1) := by decide +kernel
theorem dL_isSo_1029 : decode cL_isSo 1029 = .ok (.goto 12, 3) := by decide +kernel
theorem dL_isSo_1032 : decode cL_isSo 1032 = .ok (.iload 10, 2) := by decide +kernel
theorem dL_isSo_1034 : decode cL_isSo 1034 = .ok (.i2d, 1) := by decide +kernel
theorem dL_isSo_1035 : decode cL_isSo 1035 = .ok (.aload 4, 2) := by decide +kernel
theorem dL_isSo_1037 : decode cL_isSo 1037 = .ok (.iconst 0, 1) := by decide +kernel
theorem dL_isSo_1038 : decode cL_isSo 1038 = .ok (.iaload, 1) := by decide +kernel
theorem dL_isSo_1039 : decode cL_isSo 1039 = .ok (.i2d, 1) := by decide +kernel
theorem dL_isSo_1040 : decode cL_isSo 1040 = .ok (.ddiv, 1) := by decide +kernel
theorem dL_isSo_1041 : decode cL_isSo 1041 = .ok (.dstore 13, 2) := by decide +kernel
theorem dL_isSo_1043 : decode cL_isSo 1043 = .ok (.iload 11, 2) := by decide +kernel
theorem dL_isSo_1045 : decode cL_isSo 1045 = .ok (.ifCond .eq 118, 3) := by decide +kernel
theorem dL_isSo_1048 : decode cL_isSo 1048 = .ok (.aload_n 0, 1) := by decide +kernel
theorem dL_isSo_1049 : decode cL_isSo 1049 = .ok (.iconst 3, 1) := by decide +kernel
theorem dL_isSo_1050 : decode cL_isSo 1050 = .ok (.invokestatic 117, 3) := by decide +kernel
theorem dL_isSo_1053 : decode cL_isSo 1053 = .ok (.iload 6, 2) := by decide +kernel
theorem dL_isSo_1055 : decode cL_isSo 1055 = .ok (.if_icmp .ne 108, 3) := by decide +kernel
theorem dL_isSo_1058 : decode cL_isSo 1058 = .ok (.aload_n 0, 1) := by decide +kernel
theorem dL_isSo_1059 : decode cL_isSo 1059 = .ok (.bipush 10, 2) := by decide +kernel
theorem dL_isSo_1061 : decode cL_isSo 1061 = .ok (.invokestatic 117, 3) := by decide +kernel
theorem dL_isSo_1064 : decode cL_isSo 1064 = .ok (.iload 7, 2) := by decide +kernel
theorem dL_isSo_1066 : decode cL_isSo 1066 = .ok (.if_icmp .ne 97, 3) := by decide +kernel
theorem dL_isSo_1069 : decode cL_isSo 1069 = .ok (.aload_n 0, 1) := by decide +kernel
theorem dL_isSo_1070 : decode cL_isSo 1070 = .ok (.bipush 11, 2) := by decide +kernel
theorem dL_isSo_1072 : decode cL_isSo 1072 = .ok (.invokestatic 117, 3) := by decide +kernel
theorem dL_isSo_1075 : decode cL_isSo 1075 = .ok (.iload 8, 2) := by decide +kernel
theorem dL_isSo_1077 : decode cL_isSo 1077 = .ok (.if_icmp .ne 86, 3) := by decide +kernel
theorem dL_isSo_1080 : decode cL_isSo 1080 = .ok (.aload_n 0, 1) := by decide +kernel
theorem dL_isSo_1081 : decode cL_isSo 1081 = .ok (.bipush 12, 2) := by decide +kernel
theorem dL_isSo_1083 : decode cL_isSo 1083 = .ok (.invokestatic 117, 3) := by decide +kernel
theorem dL_isSo_1086 : decode cL_isSo 1086 = .ok (.iload 9, 2) := by decide +kernel
theorem dL_isSo_1088 : decode cL_isSo 1088 = .ok (.if_icmp .ne 75, 3) := by decide +kernel
theorem dL_isSo_1091 : decode cL_isSo 1091 = .ok (.aload_n 0, 1) := by decide +kernel
theorem dL_isSo_1092 : decode cL_isSo 1092 = .ok (.invokevirtual 132, 3) := by decide +kernel
theorem dL_isSo_1095 : decode cL_isSo 1095 = .ok (.aload_n 1, 1) := by decide +kernel
theorem dL_isSo_1096 : decode cL_isSo 1096 = .ok (.aload_n 2, 1) := by decide +kernel
theorem dL_isSo_1097 : decode cL_isSo 1097 = .ok (.aload_n 1, 1) := by decide +kernel
theorem dL_isSo_1098 : decode cL_isSo 1098 = .ok (.iconst 0, 1) := by decide +kernel
theorem dL_isSo_1099 : decode cL_isSo 1099 = .ok (.iaload, 1) := by decide +kernel
theorem dL_isSo_1100 : decode cL_isSo 1100 = .ok (.aload_n 3, 1) := by decide +kernel
theorem dL_isSo_1101 : decode cL_isSo 1101 = .ok (.aload 4, 2) := by decide +kernel
theorem dL_isSo_1103 : decode cL_isSo 1103 = .ok (.invokestatic 136, 3) := by decide +kernel
theorem dL_isSo_1106 : decode cL_isSo 1106 = .ok (.if_icmp .ne 57, 3) := by decide +kernel
theorem dL_isSo_1109 : decode cL_isSo 1109 = .ok (.aload_n 0, 1) := by decide +kernel
theorem dL_isSo_1110 : decode cL_isSo 1110 = .ok (.invokevirtual 140, 3) := by decide +kernel
theorem dL_isSo_1113 : decode cL_isSo 1113 = .ok (.dload 13, 2) := by decide +kernel
theorem dL_isSo_1115 : decode cL_isSo 1115 = .ok (.dcmp .l, 1) := by decide +kernel
theorem dL_isSo_1116 : decode cL_isSo 1116 = .ok (.ifCond .ne 47, 3) := by decide +kernel
theorem dL_isSo_1119 : decode cL_isSo 1119 = .ok (.aload_n 0, 1) := by decide +kernel
theorem dL_isSo_1120 : decode cL_isSo 1120 = .ok (.iload 5, 2) := by decide +kernel
theorem dL_isSo_1122 : decode cL_isSo 1122 = .ok (.iconst 0, 1) := by decide +kernel
theorem dL_isSo_1123 : decode cL_isSo 1123 = .ok (.invokestatic 126, 3) := by decide +kernel
theorem dL_isSo_1126 : decode cL_isSo 1126 = .ok (.ldc 54, 2) := by decide +kernel
theorem dL_isSo_1128 : decode cL_isSo 1128 = .ok (.if_icmp .ne 35, 3) := by decide +kernel
theorem dL_isSo_1131 : decode cL_isSo 1131 = .ok (.aload_n 0, 1) := by decide +kernel
theorem dL_isSo_1132 : decode cL_isSo 1132 = .ok (.aload 4, 2) := by decide +kernel
theorem dL_isSo_1134 : decode cL_isSo 1134 = .ok (.iconst 0, 1) := by decide +kernel
theorem dL_isSo_1135 : decode cL_isSo 1135 = .ok (.iaload, 1) := by decide +kernel
theorem dL_isSo_1136 : decode cL_isSo 1136 = .ok (.iconst 0, 1) := by decide +kernel
theorem dL_isSo_1137 : decode cL_isSo 1137 = .ok (.invokestatic 123, 3) := by decide +kernel
theorem dL_isSo_1140 : decode cL_isSo 1140 = .ok (.ldc 54, 2) := by decide +kernel
theorem dL_isSo_1142 : decode cL_isSo 1142 = .ok (.if_icmp .ne 21, 3) := by decide +kernel
theorem dL_isSo_1145 : decode cL_isSo 1145 = .ok (.aload_n 0, 1) := by decide +kernel
theorem dL_isSo_1146 : decode cL_isSo 1146 = .ok (.aload 4, 2) := by decide +kernel
theorem dL_isSo_1148 : decode cL_isSo 1148 = .ok (.iconst 1, 1) := by decide +kernel
theorem dL_isSo_1149 : decode cL_isSo 1149 = .ok (.iaload, 1) := by decide +kernel
theorem dL_isSo_1150 : decode cL_isSo 1150 = .ok (.iconst 0, 1) := by decide +kernel
theorem dL_isSo_1151 : decode cL_isSo 1151 = .ok (.invokestatic 129, 3) := by decide +kernel
theorem dL_isSo_1154 : decode cL_isSo 1154 = .ok (.ldc 54, 2) := by decide +kernel
theorem dL_isSo_1156 : decode cL_isSo 1156 = .ok (.if_icmp .ne 7, 3) := by decide +kernel
theorem dL_isSo_1159 : decode cL_isSo 1159 = .ok (.iconst 1, 1) := by decide +kernel
theorem dL_isSo_1160 : decode cL_isSo 1160 = .ok (.goto 4, 3) := by decide +kernel
theorem dL_isSo_1163 : decode cL_isSo 1163 = .ok (.iconst 0, 1) := by decide +kernel
theorem dL_isSo_1164 : decode cL_isSo 1164 = .ok (.ireturn, 1) := by decide +kernel
set_option maxRecDepth 20000 in
theorem ggL_law_X5_init : GoodIn wsL_law wsX5_init := goodIn_r _ [9, 10, 11, 12, 13, 14, 15, 16, 17, 18, 19, 20, 21, 22, 23, 24, 25, 26, 27, 28, 29, 30, 31, 32, 33, 3, 34, 35, 36, 37, 38, 39, 40, 41, 42, 43, 44, 45, 46, 47, 48, 49, 50, 51, 52, 53, 54, 55, 56, 57, 58, 59, 60, 61, 62, 63, 64, 65, 66, 67, 68, 69, 70, 71, 460, 461, 462, 463, 464, 465, 466, 467, 468, 454, 455, 456, 457, 458, 459, 469, 470, 471, 472, 473, 474, 475, 476, 477, 478, 479, 480, 481, 482, 483, 484, 485, 486, 487, 488] (by decide +kernel) (by decide +kernel)
set_option maxRecDepth 20000 in
theorem gL_law_X5_init : GoodIn wsL_law (wsX5_init) := ggL_law_X5_init
set_option maxRecDepth 20000 in
theorem ggL_law_L_starts : GoodIn wsL_law wsL_starts := goodIn_r _ [75] (by decide +kernel) (by decide +kernel)
set_option maxRecDepth 20000 in
theorem gL_law_L_starts : GoodIn wsL_law (va_wsS RL 145 yL_starts wsL_starts) := goodIn_app (goodIn_of _ (by decide +kernel)) ggL_law_L_starts
