theorem d_Law_law_802 : decode b_Law_law 802 = .ok (.iconst 0, 1) := by decide +kernel
theorem d_Law_law_803 : decode b_Law_law 803 = .ok (.aload_n 3, 1) := by decide +kernel
theorem d_Law_law_804 : decode b_Law_law 804 = .ok (.invokestatic 80, 3) := by decide +kernel
theorem d_Law_law_807 : decode b_Law_law 807 = .ok (.istore 5, 2) := by decide +kernel
theorem d_Law_law_809 : decode b_Law_law 809 = .ok (.aload_n 2, 1) := by decide +kernel
theorem d_Law_law_810 : decode b_Law_law 810 = .ok (.aload_n 0, 1) := by decide +kernel
theorem d_Law_law_811 : decode b_Law_law 811 = .ok (.iload 4, 2) := by decide +kernel
theorem d_Law_law_813 : decode b_Law_law 813 = .ok (.iconst 1, 1) := by decide +kernel
theorem d_Law_law_814 : decode b_Law_law 814 = .ok (.iadd, 1) := by decide +kernel
theorem d_Law_law_815 : decode b_Law_law 815 = .ok (.iaload, 1) := by decide +kernel
theorem d_Law_law_816 : decode b_Law_law 816 = .ok (.i2l, 1) := by decide +kernel
theorem d_Law_law_817 : decode b_Law_law 817 = .ok (.bipush 32, 2) := by decide +kernel
theorem d_Law_law_819 : decode b_Law_law 819 = .ok (.lshl, 1) := by decide +kernel
theorem d_Law_law_820 : decode b_Law_law 820 = .ok (.aload_n 0, 1) := by decide +kernel
theorem d_Law_law_821 : decode b_Law_law 821 = .ok (.iload 4, 2) := by decide +kernel
theorem d_Law_law_823 : decode b_Law_law 823 = .ok (.iconst 2, 1) := by decide +kernel
theorem d_Law_law_824 : decode b_Law_law 824 = .ok (.iadd, 1) := by decide +kernel
theorem d_Law_law_825 : decode b_Law_law 825 = .ok (.iaload, 1) := by decide +kernel
theorem d_Law_law_826 : decode b_Law_law 826 = .ok (.i2l, 1) := by decide +kernel
theorem d_Law_law_827 : decode b_Law_law 827 = .ok (.ldc2_w 46, 3) := by decide +kernel
theorem d_Law_law_830 : decode b_Law_law 830 = .ok (.land, 1) := by decide +kernel
theorem d_Law_law_831 : decode b_Law_law 831 = .ok (.lor, 1) := by decide +kernel
theorem d_Law_law_832 : decode b_Law_law 832 = .ok (.aload_n 0, 1) := by decide +kernel
theorem d_Law_law_833 : decode b_Law_law 833 = .ok (.iload 4, 2) := by decide +kernel
theorem d_Law_law_835 : decode b_Law_law 835 = .ok (.iconst 3, 1) := by decide +kernel
theorem d_Law_law_836 : decode b_Law_law 836 = .ok (.iadd, 1) := by decide +kernel
theorem d_Law_law_837 : decode b_Law_law 837 = .ok (.iaload, 1) := by decide +kernel
theorem d_Law_law_838 : decode b_Law_law 838 = .ok (.ifCond .eq 7, 3) := by decide +kernel
theorem d_Law_law_841 : decode b_Law_law 841 = .ok (.iconst 1, 1) := by decide +kernel
theorem d_Law_law_842 : decode b_Law_law 842 = .ok (.goto 4, 3) := by decide +kernel
theorem d_Law_law_845 : decode b_Law_law 845 = .ok (.iconst 0, 1) := by decide +kernel
theorem d_Law_law_846 : decode b_Law_law 846 = .ok (.invokevirtual 82, 3) := by decide +kernel
theorem d_Law_law_849 : decode b_Law_law 849 = .ok (.istore 6, 2) := by decide +kernel
theorem d_Law_law_851 : decode b_Law_law 851 = .ok (.aload_n 2, 1) := by decide +kernel
theorem d_Law_law_852 : decode b_Law_law 852 = .ok (.invokevirtual 54, 3) := by decide +kernel
theorem d_Law_law_855 : decode b_Law_law 855 = .ok (.iload 5, 2) := by decide +kernel
theorem d_Law_law_857 : decode b_Law_law 857 = .ok (.if_icmp .eq 5, 3) := by decide +kernel
theorem d_Law_law_860 : decode b_Law_law 860 = .ok (.iconst 0, 1) := by decide +kernel
theorem d_Law_law_861 : decode b_Law_law 861 = .ok (.ireturn, 1) := by decide +kernel
theorem d_Law_law_862 : decode b_Law_law 862 = .ok (.iload 5, 2) := by decide +kernel
theorem d_Law_law_864 : decode b_Law_law 864 = .ok (.ifCond .ne 15, 3) := by decide +kernel
theorem d_Law_law_867 : decode b_Law_law 867 = .ok (.aload_n 3, 1) := by decide +kernel
theorem d_Law_law_868 : decode b_Law_law 868 = .ok (.iconst 0, 1) := by decide +kernel
theorem d_Law_law_869 : decode b_Law_law 869 = .ok (.laload, 1) := by decide +kernel
theorem d_Law_law_870 : decode b_Law_law 870 = .ok (.iload 6, 2) := by decide +kernel
theorem d_Law_law_872 : decode b_Law_law 872 = .ok (.i2l, 1) := by decide +kernel
theorem d_Law_law_873 : decode b_Law_law 873 = .ok (.lcmp, 1) := by decide +kernel
theorem d_Law_law_874 : decode b_Law_law 874 = .ok (.ifCond .eq 5, 3) := by decide +kernel
theorem d_Law_law_877 : decode b_Law_law 877 = .ok (.iconst 0, 1) := by decide +kernel
theorem d_Law_law_878 : decode b_Law_law 878 = .ok (.ireturn, 1) := by decide +kernel
theorem d_Law_law_879 : decode b_Law_law 879 = .ok (.goto 291, 3) := by decide +kernel
theorem d_Law_law_882 : decode b_Law_law 882 = .ok (.aload_n 1, 1) := by decide +kernel
theorem d_Law_law_883 : decode b_Law_law 883 = .ok (.aload_n 0, 1) := by decide +kernel
theorem d_Law_law_884 : decode b_Law_law 884 = .ok (.iload 4, 2) := by decide +kernel
theorem d_Law_law_886 : decode b_Law_law 886 = .ok (.iconst 1, 1) := by decide +kernel
theorem d_Law_law_887 : decode b_Law_law 887 = .ok (.iadd, 1) := by decide +kernel
theorem d_Law_law_888 : decode b_Law_law 888 = .ok (.iaload, 1) := by decide +kernel
theorem d_Law_law_889 : decode b_Law_law 889 = .ok (.i2l, 1) := by decide +kernel
theorem d_Law_law_890 : decode b_Law_law 890 = .ok (.bipush 32, 2) := by decide +kernel
theorem d_Law_law_892 : decode b_Law_law 892 = .ok (.lshl, 1) := by decide +kernel
theorem d_Law_law_893 : decode b_Law_law 893 = .ok (.aload_n 0, 1) := by decide +kernel
theorem d_Law_law_894 : decode b_Law_law 894 = .ok (.iload 4, 2) := by decide +kernel
theorem d_Law_law_896 : decode b_Law_law 896 = .ok (.iconst 2, 1) := by decide +kernel
theorem d_Law_law_897 : decode b_Law_law 897 = .ok (.iadd, 1) := by decide +kernel
theorem d_Law_law_898 : decode b_Law_law 898 = .ok (.iaload, 1) := by decide +kernel
theorem d_Law_law_899 : decode b_Law_law 899 = .ok (.i2l, 1) := by decide +kernel
theorem d_Law_law_900 : decode b_Law_law 900 = .ok (.ldc2_w 46, 3) := by decide +kernel
theorem d_Law_law_903 : decode b_Law_law 903 = .ok (.land, 1) := by decide +kernel
theorem d_Law_law_904 : decode b_Law_law 904 = .ok (.lor, 1) := by decide +kernel
theorem d_Law_law_905 : decode b_Law_law 905 = .ok (.aload_n 0, 1) := by decide +kernel
theorem d_Law_law_906 : decode b_Law_law 906 = .ok (.iload 4, 2) := by decide +kernel
theorem d_Law_law_908 : decode b_Law_law 908 = .ok (.iconst 3, 1) := by decide +kernel
theorem d_Law_law_909 : decode b_Law_law 909 = .ok (.iadd, 1) := by decide +kernel
theorem d_Law_law_910 : decode b_Law_law 910 = .ok (.iaload, 1) := by decide +kernel
theorem d_Law_law_911 : decode b_Law_law 911 = .ok (.ifCond .eq 7, 3) := by decide +kernel
theorem d_Law_law_914 : decode b_Law_law 914 = .ok (.iconst 1, 1) := by decide +kernel
theorem d_Law_law_915 : decode b_Law_law 915 = .ok (.goto 4, 3) := by decide +kernel
theorem d_Law_law_918 : decode b_Law_law 918 = .ok (.iconst 0, 1) := by decide +kernel
theorem d_Law_law_919 : decode b_Law_law 919 = .ok (.aload_n 0, 1) := by decide +kernel
theorem d_Law_law_920 : decode b_Law_law 920 = .ok (.iload 4, 2) := by decide +kernel
theorem d_Law_law_922 : decode b_Law_law 922 = .ok (.iconst 4, 1) := by decide +kernel
theorem d_Law_law_923 : decode b_Law_law 923 = .ok (.iadd, 1) := by decide +kernel
theorem d_Law_law_924 : decode b_Law_law 924 = .ok (.iaload, 1) := by decide +kernel
theorem d_Law_law_925 : decode b_Law_law 925 = .ok (.ifCond .eq 7, 3) := by decide +kernel
theorem d_Law_law_928 : decode b_Law_law 928 = .ok (.iconst 1, 1) := by decide +kernel
theorem d_Law_law_929 : decode b_Law_law 929 = .ok (.goto 4, 3) := by decide +kernel
theorem d_Law_law_932 : decode b_Law_law 932 = .ok (.iconst 0, 1) := by decide +kernel
theorem d_Law_law_933 : decode b_Law_law 933 = .ok (.aload_n 3, 1) := by decide +kernel
theorem d_Law_law_934 : decode b_Law_law 934 = .ok (.invokestatic 83, 3) := by decide +kernel
theorem d_Law_law_937 : decode b_Law_law 937 = .ok (.istore 5, 2) := by decide +kernel
theorem d_Law_law_939 : decode b_Law_law 939 = .ok (.aload_n 2, 1) := by decide +kernel
theorem d_Law_law_940 : decode b_Law_law 940 = .ok (.aload_n 0, 1) := by decide +kernel
theorem d_Law_law_941 : decode b_Law_law 941 = .ok (.iload 4, 2) := by decide +kernel
theorem d_Law_law_943 : decode b_Law_law 943 = .ok (.iconst 1, 1) := by decide +kernel
theorem d_Law_law_944 : decode b_Law_law 944 = .ok (.iadd, 1) := by decide +kernel
theorem d_Law_law_945 : decode b_Law_law 945 = .ok (.iaload, 1) := by decide +kernel
theorem d_Law_law_946 : decode b_Law_law 946 = .ok (.i2l, 1) := by decide +kernel
theorem d_Law_law_947 : decode b_Law_law 947 = .ok (.bipush 32, 2) := by decide +kernel
theorem d_Law_law_949 : decode b_Law_law 949 = .ok (.lshl, 1) := by decide +kernel
theorem d_Law_law_950 : decode b_Law_law 950 = .ok (.aload_n 0, 1) := by decide +kernel
theorem d_Law_law_951 : decode b_Law_law 951 = .ok (.iload 4, 2) := by decide +kernel
theorem d_Law_law_953 : decode b_Law_law 953 = .ok (.iconst 2, 1) := by decide +kernel
theorem d_Law_law_954 : decode b_Law_law 954 = .ok (.iadd, 1) := by decide +kernel
theorem d_Law_law_955 : decode b_Law_law 955 = .ok (.iaload, 1) := by decide +kernel
theorem d_Law_law_956 : decode b_Law_law 956 = .ok (.i2l, 1) := by decide +kernel
theorem d_Law_law_957 : decode b_Law_law 957 = .ok (.ldc2_w 46, 3) := by decide +kernel
theorem d_Law_law_960 : decode b_Law_law 960 = .ok (.land, 1) := by decide +kernel
theorem d_Law_law_961 : decode b_Law_law 961 = .ok (.lor, 1) := by decide +kernel
theorem d_Law_law_962 : decode b_Law_law 962 = .ok (.aload_n 0, 1) := by decide +kernel
theorem d_Law_law_963 : decode b_Law_law 963 = .ok (.iload 4, 2) := by decide +kernel
theorem d_Law_law_965 : decode b_Law_law 965 = .ok (.iconst 3, 1) := by decide +kernel
theorem d_Law_law_966 : decode b_Law_law 966 = .ok (.iadd, 1) := by decide +kernel
theorem d_Law_law_967 : decode b_Law_law 967 = .ok (.iaload, 1) := by decide +kernel
theorem d_Law_law_968 : decode b_Law_law 968 = .ok (.ifCond .eq 7, 3) := by decide +kernel
theorem d_Law_law_971 : decode b_Law_law 971 = .ok (.iconst 1, 1) := by decide +kernel
theorem d_Law_law_972 : decode b_Law_law 972 = .ok (.goto 4, 3) := by decide +kernel
theorem d_Law_law_975 : decode b_Law_law 975 = .ok (.iconst 0, 1) := by decide +kernel
theorem d_Law_law_976 : decode b_Law_law 976 = .ok (.aload_n 0, 1) := by decide +kernel
theorem d_Law_law_977 : decode b_Law_law 977 = .ok (.iload 4, 2) := by decide +kernel
theorem d_Law_law_979 : decode b_Law_law 979 = .ok (.iconst 4, 1) := by decide +kernel
theorem d_Law_law_980 : decode b_Law_law 980 = .ok (.iadd, 1) := by decide +kernel
theorem d_Law_law_981 : decode b_Law_law 981 = .ok (.iaload, 1) := by decide +kernel
theorem d_Law_law_982 : decode b_Law_law 982 = .ok (.ifCond .eq 7, 3) := by decide +kernel
theorem d_Law_law_985 : decode b_Law_law 985 = .ok (.iconst 1, 1) := by decide +kernel
theorem d_Law_law_986 : decode b_Law_law 986 = .ok (.goto 4, 3) := by decide +kernel
theorem d_Law_law_989 : decode b_Law_law 989 = .ok (.iconst 0, 1) := by decide +kernel
theorem d_Law_law_990 : decode b_Law_law 990 = .ok (.invokevirtual 86, 3) := by decide +kernel
theorem d_Law_law_993 : decode b_Law_law 993 = .ok (.lstore 6, 2) := by decide +kernel
theorem d_Law_law_995 : decode b_Law_law 995 = .ok (.aload_n 2, 1) := by decide +kernel
theorem d_Law_law_996 : decode b_Law_law 996 = .ok (.invokevirtual 54, 3) := by decide +kernel
theorem d_Law_law_999 : decode b_Law_law 999 = .ok (.iload 5, 2) := by decide +kernel
theorem d_Law_law_1001 : decode b_Law_law 1001 = .ok (.if_icmp .eq 5, 3) := by decide +kernel
theorem d_Law_law_1004 : decode b_Law_law 1004 = .ok (.iconst 0, 1) := by decide +kernel
theorem d_Law_law_1005 : decode b_Law_law 1005 = .ok (.ireturn, 1) := by decide +kernel
theorem d_Law_law_1006 : decode b_Law_law 1006 = .ok (.iload 5, 2) := by decide +kernel
theorem d_Law_law_1008 : decode b_Law_law 1008 = .ok (.ifCond .ne 14, 3) := by decide +kernel
theorem d_Law_law_1011 : decode b_Law_law 1011 = .ok (.aload_n 3, 1) := by decide +kernel
theorem d_Law_law_1012 : decode b_Law_law 1012 = .ok (.iconst 0, 1) := by decide +kernel
theorem d_Law_law_1013 : decode b_Law_law 1013 = .ok (.laload, 1) := by decide +kernel
theorem d_Law_law_1014 : decode b_Law_law 1014 = .ok (.lload 6, 2) := by decide +kernel
theorem d_Law_law_1016 : decode b_Law_law 1016 = .ok (.lcmp, 1) := by decide +kernel
theorem d_Law_law_1017 : decode b_Law_law 1017 = .ok (.ifCond .eq 5, 3) := by decide +kernel
theorem d_Law_law_1020 : decode b_Law_law 1020 = .ok (.iconst 0, 1) := by decide +kernel
theorem d_Law_law_1021 : decode b_Law_law 1021 = .ok (.ireturn, 1) := by decide +kernel
theorem d_Law_law_1022 : decode b_Law_law 1022 = .ok (.goto 148, 3) := by decide +kernel
theorem d_Law_law_1025 : decode b_Law_law 1025 = .ok (.aload_n 1, 1) := by decide +kernel
theorem d_Law_law_1026 : decode b_Law_law 1026 = .ok (.aload_n 0, 1) := by decide +kernel
theorem d_Law_law_1027 : decode b_Law_law 1027 = .ok (.iload 4, 2) := by decide +kernel
theorem d_Law_law_1029 : decode b_Law_law 1029 = .ok (.iconst 1, 1) := by decide +kernel
theorem d_Law_law_1030 : decode b_Law_law 1030 = .ok (.iadd, 1) := by decide +kernel
theorem d_Law_law_1031 : decode b_Law_law 1031 = .ok (.iaload, 1) := by decide +kernel
theorem d_Law_law_1032 : decode b_Law_law 1032 = .ok (.i2l, 1) := by decide +kernel
theorem d_Law_law_1033 : decode b_Law_law 1033 = .ok (.bipush 32, 2) := by decide +kernel
theorem d_Law_law_1035 : decode b_Law_law 1035 = .ok (.lshl, 1) := by decide +kernel
theorem d_Law_law_1036 : decode b_Law_law 1036 = .ok (.aload_n 0, 1) := by decide +kernel
theorem d_Law_law_1037 : decode b_Law_law 1037 = .ok (.iload 4, 2) := by decide +kernel
theorem d_Law_law_1039 : decode b_Law_law 1039 = .ok (.iconst 2, 1) := by decide +kernel
theorem d_Law_law_1040 : decode b_Law_law 1040 = .ok (.iadd, 1) := by decide +kernel
theorem d_Law_law_1041 : decode b_Law_law 1041 = .ok (.iaload, 1) := by decide +kernel
theorem d_Law_law_1042 : decode b_Law_law 1042 = .ok (.i2l, 1) := by decide +kernel
theorem d_Law_law_1043 : decode b_Law_law 1043 = .ok (.ldc2_w 46, 3) := by decide +kernel
theorem d_Law_law_1046 : decode b_Law_law 1046 = .ok (.land, 1) := by decide +kernel
theorem d_Law_law_1047 : decode b_Law_law 1047 = .ok (.lor, 1) := by decide +kernel
theorem d_Law_law_1048 : decode b_Law_law 1048 = .ok (.invokevirtual 87, 3) := by decide +kernel
theorem d_Law_law_1051 : decode b_Law_law 1051 = .ok (.aload_n 2, 1) := by decide +kernel
theorem d_Law_law_1052 : decode b_Law_law 1052 = .ok (.aload_n 0, 1) := by decide +kernel
theorem d_Law_law_1053 : decode b_Law_law 1053 = .ok (.iload 4, 2) := by decide +kernel
theorem d_Law_law_1055 : decode b_Law_law 1055 = .ok (.iconst 1, 1) := by decide +kernel
theorem d_Law_law_1056 : decode b_Law_law 1056 = .ok (.iadd, 1) := by decide +kernel
theorem d_Law_law_1057 : decode b_Law_law 1057 = .ok (.iaload, 1) := by decide +kernel
theorem d_Law_law_1058 : decode b_Law_law 1058 = .ok (.i2l, 1) := by decide +kernel
theorem d_Law_law_1059 : decode b_Law_law 1059 = .ok (.bipush 32, 2) := by decide +kernel
theorem d_Law_law_1061 : decode b_Law_law 1061 = .ok (.lshl, 1) := by decide +kernel
theorem d_Law_law_1062 : decode b_Law_law 1062 = .ok (.aload_n 0, 1) := by decide +kernel
theorem d_Law_law_1063 : decode b_Law_law 1063 = .ok (.iload 4, 2) := by decide +kernel
theorem d_Law_law_1065 : decode b_Law_law 1065 = .ok (.iconst 2, 1) := by decide +kernel
theorem d_Law_law_1066 : decode b_Law_law 1066 = .ok (.iadd, 1) := by decide +kernel
theorem d_Law_law_1067 : decode b_Law_law 1067 = .ok (.iaload, 1) := by decide +kernel
theorem d_Law_law_1068 : decode b_Law_law 1068 = .ok (.i2l, 1) := by decide +kernel
theorem d_Law_law_1069 : decode b_Law_law 1069 = .ok (.ldc2_w 46, 3) := by decide +kernel
theorem d_Law_law_1072 : decode b_Law_law 1072 = .ok (.land, 1) := by decide +kernel
theorem d_Law_law_1073 : decode b_Law_law 1073 = .ok (.lor, 1) := by decide +kernel
theorem d_Law_law_1074 : decode b_Law_law 1074 = .ok (.invokevirtual 90, 3) := by decide +kernel
theorem d_Law_law_1077 : decode b_Law_law 1077 = .ok (.lcmp, 1) := by decide +kernel
theorem d_Law_law_1078 : decode b_Law_law 1078 = .ok (.ifCond .eq 92, 3) := by decide +kernel
theorem d_Law_law_1081 : decode b_Law_law 1081 = .ok (.iconst 0, 1) := by decide +kernel
theorem d_Law_law_1082 : decode b_Law_law 1082 = .ok (.ireturn, 1) := by decide +kernel
theorem d_Law_law_1083 : decode b_Law_law 1083 = .ok (.aload_n 1, 1) := by decide +kernel
theorem d_Law_law_1084 : decode b_Law_law 1084 = .ok (.aload_n 0, 1) := by decide +kernel
theorem d_Law_law_1085 : decode b_Law_law 1085 = .ok (.iload 4, 2) := by decide +kernel
theorem d_Law_law_1087 : decode b_Law_law 1087 = .ok (.iconst 1, 1) := by decide +kernel
theorem d_Law_law_1088 : decode b_Law_law 1088 = .ok (.iadd, 1) := by decide +kernel
theorem d_Law_law_1089 : decode b_Law_law 1089 = .ok (.iaload, 1) := by decide +kernel
theorem d_Law_law_1090 : decode b_Law_law 1090 = .ok (.i2l, 1) := by decide +kernel
theorem d_Law_law_1091 : decode b_Law_law 1091 = .ok (.bipush 32, 2) := by decide +kernel
theorem d_Law_law_1093 : decode b_Law_law 1093 = .ok (.lshl, 1) := by decide +kernel
theorem d_Law_law_1094 : decode b_Law_law 1094 = .ok (.aload_n 0, 1) := by decide +kernel
theorem d_Law_law_1095 : decode b_Law_law 1095 = .ok (.iload 4, 2) := by decide +kernel
theorem d_Law_law_1097 : decode b_Law_law 1097 = .ok (.iconst 2, 1) := by decide +kernel
theorem d_Law_law_1098 : decode b_Law_law 1098 = .ok (.iadd, 1) := by decide +kernel
theorem d_Law_law_1099 : decode b_Law_law 1099 = .ok (.iaload, 1) := by decide +kernel
theorem d_Law_law_1100 : decode b_Law_law 1100 = .ok (.i2l, 1) := by decide +kernel
theorem d_Law_law_1101 : decode b_Law_law 1101 = .ok (.ldc2_w 46, 3) := by decide +kernel
theorem d_Law_law_1104 : decode b_Law_law 1104 = .ok (.land, 1) := by decide +kernel
theorem d_Law_law_1105 : decode b_Law_law 1105 = .ok (.lor, 1) := by decide +kernel
theorem d_Law_law_1106 : decode b_Law_law 1106 = .ok (.aload_n 3, 1) := by decide +kernel
theorem d_Law_law_1107 : decode b_Law_law 1107 = .ok (.invokestatic 91, 3) := by decide +kernel
theorem d_Law_law_1110 : decode b_Law_law 1110 = .ok (.istore 5, 2) := by decide +kernel
theorem d_Law_law_1112 : decode b_Law_law 1112 = .ok (.aload_n 2, 1) := by decide +kernel
theorem d_Law_law_1113 : decode b_Law_law 1113 = .ok (.aload_n 0, 1) := by decide +kernel
theorem d_Law_law_1114 : decode b_Law_law 1114 = .ok (.iload 4, 2) := by decide +kernel
theorem d_Law_law_1116 : decode b_Law_law 1116 = .ok (.iconst 1, 1) := by decide +kernel
theorem d_Law_law_1117 : decode b_Law_law 1117 = .ok (.iadd, 1) := by decide +kernel
theorem d_Law_law_1118 : decode b_Law_law 1118 = .ok (.iaload, 1) := by decide +kernel
theorem d_Law_law_1119 : decode b_Law_law 1119 = .ok (.i2l, 1) := by decide +kernel
theorem d_Law_law_1120 : decode b_Law_law 1120 = .ok (.bipush 32, 2) := by decide +kernel
theorem d_Law_law_1122 : decode b_Law_law 1122 = .ok (.lshl, 1) := by decide +kernel
theorem d_Law_law_1123 : decode b_Law_law 1123 = .ok (.aload_n 0, 1) := by decide +kernel
theorem d_Law_law_1124 : decode b_Law_law 1124 = .ok (.iload 4, 2) := by decide +kernel
theorem d_Law_law_1126 : decode b_Law_law 1126 = .ok (.iconst 2, 1) := by decide +kernel
theorem d_Law_law_1127 : decode b_Law_law 1127 = .ok (.iadd, 1) := by decide +kernel
theorem d_Law_law_1128 : decode b_Law_law 1128 = .ok (.iaload, 1) := by decide +kernel
theorem d_Law_law_1129 : decode b_Law_law 1129 = .ok (.i2l, 1) := by decide +kernel
theorem d_Law_law_1130 : decode b_Law_law 1130 = .ok (.ldc2_w 46, 3) := by decide +kernel
theorem d_Law_law_1133 : decode b_Law_law 1133 = .ok (.land, 1) := by decide +kernel
theorem d_Law_law_1134 : decode b_Law_law 1134 = .ok (.lor, 1) := by decide +kernel
theorem d_Law_law_1135 : decode b_Law_law 1135 = .ok (.invokevirtual 94, 3) := by decide +kernel
theorem d_Law_law_1138 : decode b_Law_law 1138 = .ok (.lstore 6, 2) := by decide +kernel
theorem d_Law_law_1140 : decode b_Law_law 1140 = .ok (.aload_n 2, 1) := by decide +kernel
theorem d_Law_law_1141 : decode b_Law_law 1141 = .ok (.invokevirtual 54, 3) := by decide +kernel
theorem d_Law_law_1144 : decode b_Law_law 1144 = .ok (.iload 5, 2) := by decide +kernel
theorem d_Law_law_1146 : decode b_Law_law 1146 = .ok (.if_icmp .eq 5, 3) := by decide +kernel
theorem d_Law_law_1149 : decode b_Law_law 1149 = .ok (.iconst 0, 1) := by decide +kernel
theorem d_Law_law_1150 : decode b_Law_law 1150 = .ok (.ireturn, 1) := by decide +kernel
theorem d_Law_law_1151 : decode b_Law_law 1151 = .ok (.iload 5, 2) := by decide +kernel
theorem d_Law_law_1153 : decode b_Law_law 1153 = .ok (.ifCond .ne 14, 3) := by decide +kernel
theorem d_Law_law_1156 : decode b_Law_law 1156 = .ok (.aload_n 3, 1) := by decide +kernel
theorem d_Law_law_1157 : decode b_Law_law 1157 = .ok (.iconst 0, 1) := by decide +kernel
theorem d_Law_law_1158 : decode b_Law_law 1158 = .ok (.laload, 1) := by decide +kernel
theorem d_Law_law_1159 : decode b_Law_law 1159 = .ok (.lload 6, 2) := by decide +kernel
theorem d_Law_law_1161 : decode b_Law_law 1161 = .ok (.lcmp, 1) := by decide +kernel
theorem d_Law_law_1162 : decode b_Law_law 1162 = .ok (.ifCond .eq 5, 3) := by decide +kernel
theorem d_Law_law_1165 : decode b_Law_law 1165 = .ok (.iconst 0, 1) := by decide +kernel
theorem d_Law_law_1166 : decode b_Law_law 1166 = .ok (.ireturn, 1) := by decide +kernel
theorem d_Law_law_1167 : decode b_Law_law 1167 = .ok (.goto 3, 3) := by decide +kernel
theorem d_Law_law_1170 : decode b_Law_law 1170 = .ok (.iinc 4 6, 3) := by decide +kernel
theorem d_Law_law_1173 : decode b_Law_law 1173 = .ok (.goto (-1150), 3) := by decide +kernel
theorem d_Law_law_1176 : decode b_Law_law 1176 = .ok (.iconst 1, 1) := by decide +kernel
theorem d_Law_law_1177 : decode b_Law_law 1177 = .ok (.ireturn, 1) := by decide +kernel
