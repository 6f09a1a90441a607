theorem dL_law_772 : decode code 772 = .ok (.ifCond .ne 15, 3) := by decide +kernel
theorem dL_law_775 : decode code 775 = .ok (.aload_n 3, 1) := by decide +kernel
theorem dL_law_776 : decode code 776 = .ok (.iconst 0, 1) := by decide +kernel
theorem dL_law_777 : decode code 777 = .ok (.laload, 1) := by decide +kernel
theorem dL_law_778 : decode code 778 = .ok (.iload 6, 2) := by decide +kernel
theorem dL_law_780 : decode code 780 = .ok (.i2l, 1) := by decide +kernel
theorem dL_law_781 : decode code 781 = .ok (.lcmp, 1) := by decide +kernel
theorem dL_law_782 : decode code 782 = .ok (.ifCond .eq 5, 3) := by decide +kernel
theorem dL_law_785 : decode code 785 = .ok (.iconst 0, 1) := by decide +kernel
theorem dL_law_786 : decode code 786 = .ok (.ireturn, 1) := by decide +kernel
theorem dL_law_787 : decode code 787 = .ok (.goto 307, 3) := by decide +kernel
theorem dL_law_790 : decode code 790 = .ok (.aload_n 1, 1) := by decide +kernel
theorem dL_law_791 : decode code 791 = .ok (.aload_n 0, 1) := by decide +kernel
theorem dL_law_792 : decode code 792 = .ok (.iload 4, 2) := by decide +kernel
theorem dL_law_794 : decode code 794 = .ok (.iconst 1, 1) := by decide +kernel
theorem dL_law_795 : decode code 795 = .ok (.iadd, 1) := by decide +kernel
theorem dL_law_796 : decode code 796 = .ok (.iaload, 1) := by decide +kernel
theorem dL_law_797 : decode code 797 = .ok (.aload_n 0, 1) := by decide +kernel
theorem dL_law_798 : decode code 798 = .ok (.iload 4, 2) := by decide +kernel
theorem dL_law_800 : decode code 800 = .ok (.iconst 2, 1) := by decide +kernel
theorem dL_law_801 : decode code 801 = .ok (.iadd, 1) := by decide +kernel
theorem dL_law_802 : decode code 802 = .ok (.iaload, 1) := by decide +kernel
theorem dL_law_803 : decode code 803 = .ok (.aload_n 0, 1) := by decide +kernel
theorem dL_law_804 : decode code 804 = .ok (.iload 4, 2) := by decide +kernel
theorem dL_law_806 : decode code 806 = .ok (.iconst 3, 1) := by decide +kernel
theorem dL_law_807 : decode code 807 = .ok (.iadd, 1) := by decide +kernel
theorem dL_law_808 : decode code 808 = .ok (.iaload, 1) := by decide +kernel
theorem dL_law_809 : decode code 809 = .ok (.aload_n 3, 1) := by decide +kernel
theorem dL_law_810 : decode code 810 = .ok (.invokestatic 98, 3) := by decide +kernel
theorem dL_law_813 : decode code 813 = .ok (.istore 5, 2) := by decide +kernel
theorem dL_law_815 : decode code 815 = .ok (.aload_n 2, 1) := by decide +kernel
theorem dL_law_816 : decode code 816 = .ok (.aload_n 0, 1) := by decide +kernel
theorem dL_law_817 : decode code 817 = .ok (.iload 4, 2) := by decide +kernel
theorem dL_law_819 : decode code 819 = .ok (.iconst 1, 1) := by decide +kernel
theorem dL_law_820 : decode code 820 = .ok (.iadd, 1) := by decide +kernel
theorem dL_law_821 : decode code 821 = .ok (.iaload, 1) := by decide +kernel
theorem dL_law_822 : decode code 822 = .ok (.aload_n 0, 1) := by decide +kernel
theorem dL_law_823 : decode code 823 = .ok (.iload 4, 2) := by decide +kernel
theorem dL_law_825 : decode code 825 = .ok (.iconst 2, 1) := by decide +kernel
theorem dL_law_826 : decode code 826 = .ok (.iadd, 1) := by decide +kernel
theorem dL_law_827 : decode code 827 = .ok (.iaload, 1) := by decide +kernel
theorem dL_law_828 : decode code 828 = .ok (.aload_n 0, 1) := by decide +kernel
theorem dL_law_829 : decode code 829 = .ok (.iload 4, 2) := by decide +kernel
theorem dL_law_831 : decode code 831 = .ok (.iconst 3, 1) := by decide +kernel
theorem dL_law_832 : decode code 832 = .ok (.iadd, 1) := by decide +kernel
theorem dL_law_833 : decode code 833 = .ok (.iaload, 1) := by decide +kernel
theorem dL_law_834 : decode code 834 = .ok (.invokevirtual 100, 3) := by decide +kernel
theorem dL_law_837 : decode code 837 = .ok (.istore 6, 2) := by decide +kernel
theorem dL_law_839 : decode code 839 = .ok (.aload_n 2, 1) := by decide +kernel
theorem dL_law_840 : decode code 840 = .ok (.invokevirtual 69, 3) := by decide +kernel
theorem dL_law_843 : decode code 843 = .ok (.iload 5, 2) := by decide +kernel
theorem dL_law_845 : decode code 845 = .ok (.if_icmp .eq 5, 3) := by decide +kernel
theorem dL_law_848 : decode code 848 = .ok (.iconst 0, 1) := by decide +kernel
theorem dL_law_849 : decode code 849 = .ok (.ireturn, 1) := by decide +kernel
theorem dL_law_850 : decode code 850 = .ok (.iload 5, 2) := by decide +kernel
theorem dL_law_852 : decode code 852 = .ok (.ifCond .ne 15, 3) := by decide +kernel
theorem dL_law_855 : decode code 855 = .ok (.aload_n 3, 1) := by decide +kernel
theorem dL_law_856 : decode code 856 = .ok (.iconst 0, 1) := by decide +kernel
theorem dL_law_857 : decode code 857 = .ok (.laload, 1) := by decide +kernel
theorem dL_law_858 : decode code 858 = .ok (.iload 6, 2) := by decide +kernel
theorem dL_law_860 : decode code 860 = .ok (.i2l, 1) := by decide +kernel
theorem dL_law_861 : decode code 861 = .ok (.lcmp, 1) := by decide +kernel
theorem dL_law_862 : decode code 862 = .ok (.ifCond .eq 5, 3) := by decide +kernel
theorem dL_law_865 : decode code 865 = .ok (.iconst 0, 1) := by decide +kernel
theorem dL_law_866 : decode code 866 = .ok (.ireturn, 1) := by decide +kernel
theorem dL_law_867 : decode code 867 = .ok (.goto 227, 3) := by decide +kernel
theorem dL_law_870 : decode code 870 = .ok (.aload_n 1, 1) := by decide +kernel
theorem dL_law_871 : decode code 871 = .ok (.invokevirtual 101, 3) := by decide +kernel
theorem dL_law_874 : decode code 874 = .ok (.aload_n 2, 1) := by decide +kernel
theorem dL_law_875 : decode code 875 = .ok (.invokevirtual 104, 3) := by decide +kernel
theorem dL_law_878 : decode code 878 = .ok (.if_icmp .eq 216, 3) := by decide +kernel
theorem dL_law_881 : decode code 881 = .ok (.iconst 0, 1) := by decide +kernel
theorem dL_law_882 : decode code 882 = .ok (.ireturn, 1) := by decide +kernel
theorem dL_law_883 : decode code 883 = .ok (.aload_n 1, 1) := by decide +kernel
theorem dL_law_884 : decode code 884 = .ok (.aload_n 0, 1) := by decide +kernel
theorem dL_law_885 : decode code 885 = .ok (.iload 4, 2) := by decide +kernel
theorem dL_law_887 : decode code 887 = .ok (.iconst 1, 1) := by decide +kernel
theorem dL_law_888 : decode code 888 = .ok (.iadd, 1) := by decide +kernel
theorem dL_law_889 : decode code 889 = .ok (.iaload, 1) := by decide +kernel
theorem dL_law_890 : decode code 890 = .ok (.aload_n 0, 1) := by decide +kernel
theorem dL_law_891 : decode code 891 = .ok (.iload 4, 2) := by decide +kernel
theorem dL_law_893 : decode code 893 = .ok (.iconst 2, 1) := by decide +kernel
theorem dL_law_894 : decode code 894 = .ok (.iadd, 1) := by decide +kernel
theorem dL_law_895 : decode code 895 = .ok (.iaload, 1) := by decide +kernel
theorem dL_law_896 : decode code 896 = .ok (.aload_n 0, 1) := by decide +kernel
theorem dL_law_897 : decode code 897 = .ok (.iload 4, 2) := by decide +kernel
theorem dL_law_899 : decode code 899 = .ok (.iconst 3, 1) := by decide +kernel
theorem dL_law_900 : decode code 900 = .ok (.iadd, 1) := by decide +kernel
theorem dL_law_901 : decode code 901 = .ok (.iaload, 1) := by decide +kernel
theorem dL_law_902 : decode code 902 = .ok (.aload_n 3, 1) := by decide +kernel
theorem dL_law_903 : decode code 903 = .ok (.invokestatic 105, 3) := by decide +kernel
theorem dL_law_906 : decode code 906 = .ok (.istore 5, 2) := by decide +kernel
theorem dL_law_908 : decode code 908 = .ok (.aload_n 2, 1) := by decide +kernel
theorem dL_law_909 : decode code 909 = .ok (.aload_n 0, 1) := by decide +kernel
theorem dL_law_910 : decode code 910 = .ok (.iload 4, 2) := by decide +kernel
theorem dL_law_912 : decode code 912 = .ok (.iconst 1, 1) := by decide +kernel
theorem dL_law_913 : decode code 913 = .ok (.iadd, 1) := by decide +kernel
theorem dL_law_914 : decode code 914 = .ok (.iaload, 1) := by decide +kernel
theorem dL_law_915 : decode code 915 = .ok (.aload_n 0, 1) := by decide +kernel
theorem dL_law_916 : decode code 916 = .ok (.iload 4, 2) := by decide +kernel
theorem dL_law_918 : decode code 918 = .ok (.iconst 2, 1) := by decide +kernel
theorem dL_law_919 : decode code 919 = .ok (.iadd, 1) := by decide +kernel
theorem dL_law_920 : decode code 920 = .ok (.iaload, 1) := by decide +kernel
theorem dL_law_921 : decode code 921 = .ok (.aload_n 0, 1) := by decide +kernel
theorem dL_law_922 : decode code 922 = .ok (.iload 4, 2) := by decide +kernel
theorem dL_law_924 : decode code 924 = .ok (.iconst 3, 1) := by decide +kernel
theorem dL_law_925 : decode code 925 = .ok (.iadd, 1) := by decide +kernel
theorem dL_law_926 : decode code 926 = .ok (.iaload, 1) := by decide +kernel
theorem dL_law_927 : decode code 927 = .ok (.invokevirtual 107, 3) := by decide +kernel
theorem dL_law_930 : decode code 930 = .ok (.lstore 6, 2) := by decide +kernel
theorem dL_law_932 : decode code 932 = .ok (.aload_n 2, 1) := by decide +kernel
theorem dL_law_933 : decode code 933 = .ok (.invokevirtual 69, 3) := by decide +kernel
theorem dL_law_936 : decode code 936 = .ok (.iload 5, 2) := by decide +kernel
theorem dL_law_938 : decode code 938 = .ok (.if_icmp .eq 5, 3) := by decide +kernel
theorem dL_law_941 : decode code 941 = .ok (.iconst 0, 1) := by decide +kernel
theorem dL_law_942 : decode code 942 = .ok (.ireturn, 1) := by decide +kernel
theorem dL_law_943 : decode code 943 = .ok (.iload 5, 2) := by decide +kernel
theorem dL_law_945 : decode code 945 = .ok (.ifCond .ne 14, 3) := by decide +kernel
theorem dL_law_948 : decode code 948 = .ok (.aload_n 3, 1) := by decide +kernel
theorem dL_law_949 : decode code 949 = .ok (.iconst 0, 1) := by decide +kernel
theorem dL_law_950 : decode code 950 = .ok (.laload, 1) := by decide +kernel
theorem dL_law_951 : decode code 951 = .ok (.lload 6, 2) := by decide +kernel
theorem dL_law_953 : decode code 953 = .ok (.lcmp, 1) := by decide +kernel
theorem dL_law_954 : decode code 954 = .ok (.ifCond .eq 5, 3) := by decide +kernel
theorem dL_law_957 : decode code 957 = .ok (.iconst 0, 1) := by decide +kernel
theorem dL_law_958 : decode code 958 = .ok (.ireturn, 1) := by decide +kernel
theorem dL_law_959 : decode code 959 = .ok (.goto 135, 3) := by decide +kernel
theorem dL_law_962 : decode code 962 = .ok (.aload_n 1, 1) := by decide +kernel
theorem dL_law_963 : decode code 963 = .ok (.aload_n 0, 1) := by decide +kernel
theorem dL_law_964 : decode code 964 = .ok (.iload 4, 2) := by decide +kernel
theorem dL_law_966 : decode code 966 = .ok (.iconst 1, 1) := by decide +kernel
theorem dL_law_967 : decode code 967 = .ok (.iadd, 1) := by decide +kernel
theorem dL_law_968 : decode code 968 = .ok (.iaload, 1) := by decide +kernel
theorem dL_law_969 : decode code 969 = .ok (.aload_n 0, 1) := by decide +kernel
theorem dL_law_970 : decode code 970 = .ok (.iload 4, 2) := by decide +kernel
theorem dL_law_972 : decode code 972 = .ok (.iconst 2, 1) := by decide +kernel
theorem dL_law_973 : decode code 973 = .ok (.iadd, 1) := by decide +kernel
theorem dL_law_974 : decode code 974 = .ok (.iaload, 1) := by decide +kernel
theorem dL_law_975 : decode code 975 = .ok (.aload_n 0, 1) := by decide +kernel
theorem dL_law_976 : decode code 976 = .ok (.iload 4, 2) := by decide +kernel
theorem dL_law_978 : decode code 978 = .ok (.iconst 3, 1) := by decide +kernel
theorem dL_law_979 : decode code 979 = .ok (.iadd, 1) := by decide +kernel
theorem dL_law_980 : decode code 980 = .ok (.iaload, 1) := by decide +kernel
theorem dL_law_981 : decode code 981 = .ok (.aload_n 0, 1) := by decide +kernel
theorem dL_law_982 : decode code 982 = .ok (.iload 4, 2) := by decide +kernel
theorem dL_law_984 : decode code 984 = .ok (.iconst 4, 1) := by decide +kernel
theorem dL_law_985 : decode code 985 = .ok (.iadd, 1) := by decide +kernel
theorem dL_law_986 : decode code 986 = .ok (.iaload, 1) := by decide +kernel
theorem dL_law_987 : decode code 987 = .ok (.aload_n 0, 1) := by decide +kernel
theorem dL_law_988 : decode code 988 = .ok (.iload 4, 2) := by decide +kernel
theorem dL_law_990 : decode code 990 = .ok (.iconst 5, 1) := by decide +kernel
theorem dL_law_991 : decode code 991 = .ok (.iadd, 1) := by decide +kernel
theorem dL_law_992 : decode code 992 = .ok (.iaload, 1) := by decide +kernel
theorem dL_law_993 : decode code 993 = .ok (.aload_n 0, 1) := by decide +kernel
theorem dL_law_994 : decode code 994 = .ok (.iload 4, 2) := by decide +kernel
theorem dL_law_996 : decode code 996 = .ok (.bipush 6, 2) := by decide +kernel
theorem dL_law_998 : decode code 998 = .ok (.iadd, 1) := by decide +kernel
theorem dL_law_999 : decode code 999 = .ok (.iaload, 1) := by decide +kernel
theorem dL_law_1000 : decode code 1000 = .ok (.aload_n 0, 1) := by decide +kernel
theorem dL_law_1001 : decode code 1001 = .ok (.iload 4, 2) := by decide +kernel
theorem dL_law_1003 : decode code 1003 = .ok (.bipush 7, 2) := by decide +kernel
theorem dL_law_1005 : decode code 1005 = .ok (.iadd, 1) := by decide +kernel
theorem dL_law_1006 : decode code 1006 = .ok (.iaload, 1) := by decide +kernel
theorem dL_law_1007 : decode code 1007 = .ok (.aload_n 3, 1) := by decide +kernel
theorem dL_law_1008 : decode code 1008 = .ok (.invokestatic 108, 3) := by decide +kernel
theorem dL_law_1011 : decode code 1011 = .ok (.istore 5, 2) := by decide +kernel
theorem dL_law_1013 : decode code 1013 = .ok (.aload_n 2, 1) := by decide +kernel
theorem dL_law_1014 : decode code 1014 = .ok (.aload_n 0, 1) := by decide +kernel
theorem dL_law_1015 : decode code 1015 = .ok (.iload 4, 2) := by decide +kernel
theorem dL_law_1017 : decode code 1017 = .ok (.iconst 1, 1) := by decide +kernel
theorem dL_law_1018 : decode code 1018 = .ok (.iadd, 1) := by decide +kernel
theorem dL_law_1019 : decode code 1019 = .ok (.iaload, 1) := by decide +kernel
theorem dL_law_1020 : decode code 1020 = .ok (.aload_n 0, 1) := by decide +kernel
theorem dL_law_1021 : decode code 1021 = .ok (.iload 4, 2) := by decide +kernel
theorem dL_law_1023 : decode code 1023 = .ok (.iconst 2, 1) := by decide +kernel
theorem dL_law_1024 : decode code 1024 = .ok (.iadd, 1) := by decide +kernel
theorem dL_law_1025 : decode code 1025 = .ok (.iaload, 1) := by decide +kernel
theorem dL_law_1026 : decode code 1026 = .ok (.aload_n 0, 1) := by decide +kernel
theorem dL_law_1027 : decode code 1027 = .ok (.iload 4, 2) := by decide +kernel
theorem dL_law_1029 : decode code 1029 = .ok (.iconst 3, 1) := by decide +kernel
theorem dL_law_1030 : decode code 1030 = .ok (.iadd, 1) := by decide +kernel
theorem dL_law_1031 : decode code 1031 = .ok (.iaload, 1) := by decide +kernel
theorem dL_law_1032 : decode code 1032 = .ok (.aload_n 0, 1) := by decide +kernel
theorem dL_law_1033 : decode code 1033 = .ok (.iload 4, 2) := by decide +kernel
theorem dL_law_1035 : decode code 1035 = .ok (.iconst 4, 1) := by decide +kernel
theorem dL_law_1036 : decode code 1036 = .ok (.iadd, 1) := by decide +kernel
theorem dL_law_1037 : decode code 1037 = .ok (.iaload, 1) := by decide +kernel
theorem dL_law_1038 : decode code 1038 = .ok (.aload_n 0, 1) := by decide +kernel
theorem dL_law_1039 : decode code 1039 = .ok (.iload 4, 2) := by decide +kernel
theorem dL_law_1041 : decode code 1041 = .ok (.iconst 5, 1) := by decide +kernel
theorem dL_law_1042 : decode code 1042 = .ok (.iadd, 1) := by decide +kernel
theorem dL_law_1043 : decode code 1043 = .ok (.iaload, 1) := by decide +kernel
theorem dL_law_1044 : decode code 1044 = .ok (.aload_n 0, 1) := by decide +kernel
theorem dL_law_1045 : decode code 1045 = .ok (.iload 4, 2) := by decide +kernel
theorem dL_law_1047 : decode code 1047 = .ok (.bipush 6, 2) := by decide +kernel
theorem dL_law_1049 : decode code 1049 = .ok (.iadd, 1) := by decide +kernel
theorem dL_law_1050 : decode code 1050 = .ok (.iaload, 1) := by decide +kernel
theorem dL_law_1051 : decode code 1051 = .ok (.aload_n 0, 1) := by decide +kernel
theorem dL_law_1052 : decode code 1052 = .ok (.iload 4, 2) := by decide +kernel
theorem dL_law_1054 : decode code 1054 = .ok (.bipush 7, 2) := by decide +kernel
theorem dL_law_1056 : decode code 1056 = .ok (.iadd, 1) := by decide +kernel
theorem dL_law_1057 : decode code 1057 = .ok (.iaload, 1) := by decide +kernel
theorem dL_law_1058 : decode code 1058 = .ok (.invokevirtual 111, 3) := by decide +kernel
theorem dL_law_1061 : decode code 1061 = .ok (.istore 6, 2) := by decide +kernel
theorem dL_law_1063 : decode code 1063 = .ok (.aload_n 2, 1) := by decide +kernel
theorem dL_law_1064 : decode code 1064 = .ok (.invokevirtual 69, 3) := by decide +kernel
theorem dL_law_1067 : decode code 1067 = .ok (.iload 5, 2) := by decide +kernel
theorem dL_law_1069 : decode code 1069 = .ok (.if_icmp .eq 5, 3) := by decide +kernel
theorem dL_law_1072 : decode code 1072 = .ok (.iconst 0, 1) := by decide +kernel
theorem dL_law_1073 : decode code 1073 = .ok (.ireturn, 1) := by decide +kernel
theorem dL_law_1074 : decode code 1074 = .ok (.iload 5, 2) := by decide +kernel
theorem dL_law_1076 : decode code 1076 = .ok (.ifCond .ne 15, 3) := by decide +kernel
theorem dL_law_1079 : decode code 1079 = .ok (.aload_n 3, 1) := by decide +kernel
theorem dL_law_1080 : decode code 1080 = .ok (.iconst 0, 1) := by decide +kernel
theorem dL_law_1081 : decode code 1081 = .ok (.laload, 1) := by decide +kernel
theorem dL_law_1082 : decode code 1082 = .ok (.iload 6, 2) := by decide +kernel
theorem dL_law_1084 : decode code 1084 = .ok (.i2l, 1) := by decide +kernel
theorem dL_law_1085 : decode code 1085 = .ok (.lcmp, 1) := by decide +kernel
theorem dL_law_1086 : decode code 1086 = .ok (.ifCond .eq 5, 3) := by decide +kernel
theorem dL_law_1089 : decode code 1089 = .ok (.iconst 0, 1) := by decide +kernel
theorem dL_law_1090 : decode code 1090 = .ok (.ireturn, 1) := by decide +kernel
theorem dL_law_1091 : decode code 1091 = .ok (.goto 3, 3) := by decide +kernel
theorem dL_law_1094 : decode code 1094 = .ok (.iinc 4 8, 3) := by decide +kernel
theorem dL_law_1097 : decode code 1097 = .ok (.goto (-1064), 3) := by decide +kernel
theorem dL_law_1100 : decode code 1100 = .ok (.iconst 1, 1) := by decide +kernel
theorem dL_law_1101 : decode code 1101 = .ok (.ireturn, 1) := by decide +kernel
