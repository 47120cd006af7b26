theorem d_Law_law_831 : decode b_Law_law 831 = .ok (.iconst 0, 1) := by decide +kernel
theorem d_Law_law_832 : decode b_Law_law 832 = .ok (.ireturn, 1) := by decide +kernel
theorem d_Law_law_833 : decode b_Law_law 833 = .ok (.aload_n 1, 1) := by decide +kernel
theorem d_Law_law_834 : decode b_Law_law 834 = .ok (.aload_n 0, 1) := by decide +kernel
theorem d_Law_law_835 : decode b_Law_law 835 = .ok (.iload 4, 2) := by decide +kernel
theorem d_Law_law_837 : decode b_Law_law 837 = .ok (.iconst 1, 1) := by decide +kernel
theorem d_Law_law_838 : decode b_Law_law 838 = .ok (.iadd, 1) := by decide +kernel
theorem d_Law_law_839 : decode b_Law_law 839 = .ok (.iaload, 1) := by decide +kernel
theorem d_Law_law_840 : decode b_Law_law 840 = .ok (.aload_n 0, 1) := by decide +kernel
theorem d_Law_law_841 : decode b_Law_law 841 = .ok (.iload 4, 2) := by decide +kernel
theorem d_Law_law_843 : decode b_Law_law 843 = .ok (.iconst 2, 1) := by decide +kernel
theorem d_Law_law_844 : decode b_Law_law 844 = .ok (.iadd, 1) := by decide +kernel
theorem d_Law_law_845 : decode b_Law_law 845 = .ok (.iaload, 1) := by decide +kernel
theorem d_Law_law_846 : decode b_Law_law 846 = .ok (.ifCond .eq 7, 3) := by decide +kernel
theorem d_Law_law_849 : decode b_Law_law 849 = .ok (.iconst 1, 1) := by decide +kernel
theorem d_Law_law_850 : decode b_Law_law 850 = .ok (.goto 4, 3) := by decide +kernel
theorem d_Law_law_853 : decode b_Law_law 853 = .ok (.iconst 0, 1) := by decide +kernel
theorem d_Law_law_854 : decode b_Law_law 854 = .ok (.aload_n 3, 1) := by decide +kernel
theorem d_Law_law_855 : decode b_Law_law 855 = .ok (.invokestatic 124, 3) := by decide +kernel
theorem d_Law_law_858 : decode b_Law_law 858 = .ok (.istore 5, 2) := by decide +kernel
theorem d_Law_law_860 : decode b_Law_law 860 = .ok (.aload_n 2, 1) := by decide +kernel
theorem d_Law_law_861 : decode b_Law_law 861 = .ok (.aload_n 0, 1) := by decide +kernel
theorem d_Law_law_862 : decode b_Law_law 862 = .ok (.iload 4, 2) := by decide +kernel
theorem d_Law_law_864 : decode b_Law_law 864 = .ok (.iconst 1, 1) := by decide +kernel
theorem d_Law_law_865 : decode b_Law_law 865 = .ok (.iadd, 1) := by decide +kernel
theorem d_Law_law_866 : decode b_Law_law 866 = .ok (.iaload, 1) := by decide +kernel
theorem d_Law_law_867 : decode b_Law_law 867 = .ok (.aload_n 0, 1) := by decide +kernel
theorem d_Law_law_868 : decode b_Law_law 868 = .ok (.iload 4, 2) := by decide +kernel
theorem d_Law_law_870 : decode b_Law_law 870 = .ok (.iconst 2, 1) := by decide +kernel
theorem d_Law_law_871 : decode b_Law_law 871 = .ok (.iadd, 1) := by decide +kernel
theorem d_Law_law_872 : decode b_Law_law 872 = .ok (.iaload, 1) := by decide +kernel
theorem d_Law_law_873 : decode b_Law_law 873 = .ok (.ifCond .eq 7, 3) := by decide +kernel
theorem d_Law_law_876 : decode b_Law_law 876 = .ok (.iconst 1, 1) := by decide +kernel
theorem d_Law_law_877 : decode b_Law_law 877 = .ok (.goto 4, 3) := by decide +kernel
theorem d_Law_law_880 : decode b_Law_law 880 = .ok (.iconst 0, 1) := by decide +kernel
theorem d_Law_law_881 : decode b_Law_law 881 = .ok (.invokevirtual 127, 3) := by decide +kernel
theorem d_Law_law_884 : decode b_Law_law 884 = .ok (.istore 6, 2) := by decide +kernel
theorem d_Law_law_886 : decode b_Law_law 886 = .ok (.aload_n 2, 1) := by decide +kernel
theorem d_Law_law_887 : decode b_Law_law 887 = .ok (.invokevirtual 70, 3) := by decide +kernel
theorem d_Law_law_890 : decode b_Law_law 890 = .ok (.iload 5, 2) := by decide +kernel
theorem d_Law_law_892 : decode b_Law_law 892 = .ok (.if_icmp .eq 5, 3) := by decide +kernel
theorem d_Law_law_895 : decode b_Law_law 895 = .ok (.iconst 0, 1) := by decide +kernel
theorem d_Law_law_896 : decode b_Law_law 896 = .ok (.ireturn, 1) := by decide +kernel
theorem d_Law_law_897 : decode b_Law_law 897 = .ok (.iload 5, 2) := by decide +kernel
theorem d_Law_law_899 : decode b_Law_law 899 = .ok (.ifCond .ne 15, 3) := by decide +kernel
theorem d_Law_law_902 : decode b_Law_law 902 = .ok (.aload_n 3, 1) := by decide +kernel
theorem d_Law_law_903 : decode b_Law_law 903 = .ok (.iconst 0, 1) := by decide +kernel
theorem d_Law_law_904 : decode b_Law_law 904 = .ok (.laload, 1) := by decide +kernel
theorem d_Law_law_905 : decode b_Law_law 905 = .ok (.iload 6, 2) := by decide +kernel
theorem d_Law_law_907 : decode b_Law_law 907 = .ok (.i2l, 1) := by decide +kernel
theorem d_Law_law_908 : decode b_Law_law 908 = .ok (.lcmp, 1) := by decide +kernel
theorem d_Law_law_909 : decode b_Law_law 909 = .ok (.ifCond .eq 5, 3) := by decide +kernel
theorem d_Law_law_912 : decode b_Law_law 912 = .ok (.iconst 0, 1) := by decide +kernel
theorem d_Law_law_913 : decode b_Law_law 913 = .ok (.ireturn, 1) := by decide +kernel
theorem d_Law_law_914 : decode b_Law_law 914 = .ok (.goto 296, 3) := by decide +kernel
theorem d_Law_law_917 : decode b_Law_law 917 = .ok (.aload_n 1, 1) := by decide +kernel
theorem d_Law_law_918 : decode b_Law_law 918 = .ok (.aload_n 0, 1) := by decide +kernel
theorem d_Law_law_919 : decode b_Law_law 919 = .ok (.iload 4, 2) := by decide +kernel
theorem d_Law_law_921 : decode b_Law_law 921 = .ok (.iconst 1, 1) := by decide +kernel
theorem d_Law_law_922 : decode b_Law_law 922 = .ok (.iadd, 1) := by decide +kernel
theorem d_Law_law_923 : decode b_Law_law 923 = .ok (.iaload, 1) := by decide +kernel
theorem d_Law_law_924 : decode b_Law_law 924 = .ok (.invokevirtual 128, 3) := by decide +kernel
theorem d_Law_law_927 : decode b_Law_law 927 = .ok (.aload_n 2, 1) := by decide +kernel
theorem d_Law_law_928 : decode b_Law_law 928 = .ok (.aload_n 0, 1) := by decide +kernel
theorem d_Law_law_929 : decode b_Law_law 929 = .ok (.iload 4, 2) := by decide +kernel
theorem d_Law_law_931 : decode b_Law_law 931 = .ok (.iconst 1, 1) := by decide +kernel
theorem d_Law_law_932 : decode b_Law_law 932 = .ok (.iadd, 1) := by decide +kernel
theorem d_Law_law_933 : decode b_Law_law 933 = .ok (.iaload, 1) := by decide +kernel
theorem d_Law_law_934 : decode b_Law_law 934 = .ok (.invokevirtual 131, 3) := by decide +kernel
theorem d_Law_law_937 : decode b_Law_law 937 = .ok (.if_icmp .eq 273, 3) := by decide +kernel
theorem d_Law_law_940 : decode b_Law_law 940 = .ok (.iconst 0, 1) := by decide +kernel
theorem d_Law_law_941 : decode b_Law_law 941 = .ok (.ireturn, 1) := by decide +kernel
theorem d_Law_law_942 : decode b_Law_law 942 = .ok (.aload_n 1, 1) := by decide +kernel
theorem d_Law_law_943 : decode b_Law_law 943 = .ok (.aload_n 0, 1) := by decide +kernel
theorem d_Law_law_944 : decode b_Law_law 944 = .ok (.iload 4, 2) := by decide +kernel
theorem d_Law_law_946 : decode b_Law_law 946 = .ok (.iconst 1, 1) := by decide +kernel
theorem d_Law_law_947 : decode b_Law_law 947 = .ok (.iadd, 1) := by decide +kernel
theorem d_Law_law_948 : decode b_Law_law 948 = .ok (.iaload, 1) := by decide +kernel
theorem d_Law_law_949 : decode b_Law_law 949 = .ok (.aload_n 0, 1) := by decide +kernel
theorem d_Law_law_950 : decode b_Law_law 950 = .ok (.iload 4, 2) := by decide +kernel
theorem d_Law_law_952 : decode b_Law_law 952 = .ok (.iconst 2, 1) := by decide +kernel
theorem d_Law_law_953 : decode b_Law_law 953 = .ok (.iadd, 1) := by decide +kernel
theorem d_Law_law_954 : decode b_Law_law 954 = .ok (.iaload, 1) := by decide +kernel
theorem d_Law_law_955 : decode b_Law_law 955 = .ok (.invokevirtual 132, 3) := by decide +kernel
theorem d_Law_law_958 : decode b_Law_law 958 = .ok (.aload_n 2, 1) := by decide +kernel
theorem d_Law_law_959 : decode b_Law_law 959 = .ok (.aload_n 0, 1) := by decide +kernel
theorem d_Law_law_960 : decode b_Law_law 960 = .ok (.iload 4, 2) := by decide +kernel
theorem d_Law_law_962 : decode b_Law_law 962 = .ok (.iconst 1, 1) := by decide +kernel
theorem d_Law_law_963 : decode b_Law_law 963 = .ok (.iadd, 1) := by decide +kernel
theorem d_Law_law_964 : decode b_Law_law 964 = .ok (.iaload, 1) := by decide +kernel
theorem d_Law_law_965 : decode b_Law_law 965 = .ok (.aload_n 0, 1) := by decide +kernel
theorem d_Law_law_966 : decode b_Law_law 966 = .ok (.iload 4, 2) := by decide +kernel
theorem d_Law_law_968 : decode b_Law_law 968 = .ok (.iconst 2, 1) := by decide +kernel
theorem d_Law_law_969 : decode b_Law_law 969 = .ok (.iadd, 1) := by decide +kernel
theorem d_Law_law_970 : decode b_Law_law 970 = .ok (.iaload, 1) := by decide +kernel
theorem d_Law_law_971 : decode b_Law_law 971 = .ok (.invokevirtual 135, 3) := by decide +kernel
theorem d_Law_law_974 : decode b_Law_law 974 = .ok (.if_icmp .eq 236, 3) := by decide +kernel
theorem d_Law_law_977 : decode b_Law_law 977 = .ok (.iconst 0, 1) := by decide +kernel
theorem d_Law_law_978 : decode b_Law_law 978 = .ok (.ireturn, 1) := by decide +kernel
theorem d_Law_law_979 : decode b_Law_law 979 = .ok (.aload_n 1, 1) := by decide +kernel
theorem d_Law_law_980 : decode b_Law_law 980 = .ok (.aload_n 3, 1) := by decide +kernel
theorem d_Law_law_981 : decode b_Law_law 981 = .ok (.invokestatic 136, 3) := by decide +kernel
theorem d_Law_law_984 : decode b_Law_law 984 = .ok (.istore 5, 2) := by decide +kernel
theorem d_Law_law_986 : decode b_Law_law 986 = .ok (.aload_n 2, 1) := by decide +kernel
theorem d_Law_law_987 : decode b_Law_law 987 = .ok (.invokevirtual 138, 3) := by decide +kernel
theorem d_Law_law_990 : decode b_Law_law 990 = .ok (.istore 6, 2) := by decide +kernel
theorem d_Law_law_992 : decode b_Law_law 992 = .ok (.aload_n 2, 1) := by decide +kernel
theorem d_Law_law_993 : decode b_Law_law 993 = .ok (.invokevirtual 70, 3) := by decide +kernel
theorem d_Law_law_996 : decode b_Law_law 996 = .ok (.iload 5, 2) := by decide +kernel
theorem d_Law_law_998 : decode b_Law_law 998 = .ok (.if_icmp .eq 5, 3) := by decide +kernel
theorem d_Law_law_1001 : decode b_Law_law 1001 = .ok (.iconst 0, 1) := by decide +kernel
theorem d_Law_law_1002 : decode b_Law_law 1002 = .ok (.ireturn, 1) := by decide +kernel
theorem d_Law_law_1003 : decode b_Law_law 1003 = .ok (.iload 5, 2) := by decide +kernel
theorem d_Law_law_1005 : decode b_Law_law 1005 = .ok (.ifCond .ne 15, 3) := by decide +kernel
theorem d_Law_law_1008 : decode b_Law_law 1008 = .ok (.aload_n 3, 1) := by decide +kernel
theorem d_Law_law_1009 : decode b_Law_law 1009 = .ok (.iconst 0, 1) := by decide +kernel
theorem d_Law_law_1010 : decode b_Law_law 1010 = .ok (.laload, 1) := by decide +kernel
theorem d_Law_law_1011 : decode b_Law_law 1011 = .ok (.iload 6, 2) := by decide +kernel
theorem d_Law_law_1013 : decode b_Law_law 1013 = .ok (.i2l, 1) := by decide +kernel
theorem d_Law_law_1014 : decode b_Law_law 1014 = .ok (.lcmp, 1) := by decide +kernel
theorem d_Law_law_1015 : decode b_Law_law 1015 = .ok (.ifCond .eq 5, 3) := by decide +kernel
theorem d_Law_law_1018 : decode b_Law_law 1018 = .ok (.iconst 0, 1) := by decide +kernel
theorem d_Law_law_1019 : decode b_Law_law 1019 = .ok (.ireturn, 1) := by decide +kernel
theorem d_Law_law_1020 : decode b_Law_law 1020 = .ok (.goto 190, 3) := by decide +kernel
theorem d_Law_law_1023 : decode b_Law_law 1023 = .ok (.aload_n 1, 1) := by decide +kernel
theorem d_Law_law_1024 : decode b_Law_law 1024 = .ok (.aload_n 0, 1) := by decide +kernel
theorem d_Law_law_1025 : decode b_Law_law 1025 = .ok (.iload 4, 2) := by decide +kernel
theorem d_Law_law_1027 : decode b_Law_law 1027 = .ok (.iconst 1, 1) := by decide +kernel
theorem d_Law_law_1028 : decode b_Law_law 1028 = .ok (.iadd, 1) := by decide +kernel
theorem d_Law_law_1029 : decode b_Law_law 1029 = .ok (.iaload, 1) := by decide +kernel
theorem d_Law_law_1030 : decode b_Law_law 1030 = .ok (.aload_n 0, 1) := by decide +kernel
theorem d_Law_law_1031 : decode b_Law_law 1031 = .ok (.iload 4, 2) := by decide +kernel
theorem d_Law_law_1033 : decode b_Law_law 1033 = .ok (.iconst 2, 1) := by decide +kernel
theorem d_Law_law_1034 : decode b_Law_law 1034 = .ok (.iadd, 1) := by decide +kernel
theorem d_Law_law_1035 : decode b_Law_law 1035 = .ok (.iaload, 1) := by decide +kernel
theorem d_Law_law_1036 : decode b_Law_law 1036 = .ok (.i2l, 1) := by decide +kernel
theorem d_Law_law_1037 : decode b_Law_law 1037 = .ok (.bipush 32, 2) := by decide +kernel
theorem d_Law_law_1039 : decode b_Law_law 1039 = .ok (.lshl, 1) := by decide +kernel
theorem d_Law_law_1040 : decode b_Law_law 1040 = .ok (.aload_n 0, 1) := by decide +kernel
theorem d_Law_law_1041 : decode b_Law_law 1041 = .ok (.iload 4, 2) := by decide +kernel
theorem d_Law_law_1043 : decode b_Law_law 1043 = .ok (.iconst 3, 1) := by decide +kernel
theorem d_Law_law_1044 : decode b_Law_law 1044 = .ok (.iadd, 1) := by decide +kernel
theorem d_Law_law_1045 : decode b_Law_law 1045 = .ok (.iaload, 1) := by decide +kernel
theorem d_Law_law_1046 : decode b_Law_law 1046 = .ok (.i2l, 1) := by decide +kernel
theorem d_Law_law_1047 : decode b_Law_law 1047 = .ok (.ldc2_w 97, 3) := by decide +kernel
theorem d_Law_law_1050 : decode b_Law_law 1050 = .ok (.land, 1) := by decide +kernel
theorem d_Law_law_1051 : decode b_Law_law 1051 = .ok (.lor, 1) := by decide +kernel
theorem d_Law_law_1052 : decode b_Law_law 1052 = .ok (.invokestatic 139, 3) := by decide +kernel
theorem d_Law_law_1055 : decode b_Law_law 1055 = .ok (.istore 5, 2) := by decide +kernel
theorem d_Law_law_1057 : decode b_Law_law 1057 = .ok (.aload_n 2, 1) := by decide +kernel
theorem d_Law_law_1058 : decode b_Law_law 1058 = .ok (.aload_n 0, 1) := by decide +kernel
theorem d_Law_law_1059 : decode b_Law_law 1059 = .ok (.iload 4, 2) := by decide +kernel
theorem d_Law_law_1061 : decode b_Law_law 1061 = .ok (.iconst 1, 1) := by decide +kernel
theorem d_Law_law_1062 : decode b_Law_law 1062 = .ok (.iadd, 1) := by decide +kernel
theorem d_Law_law_1063 : decode b_Law_law 1063 = .ok (.iaload, 1) := by decide +kernel
theorem d_Law_law_1064 : decode b_Law_law 1064 = .ok (.aload_n 0, 1) := by decide +kernel
theorem d_Law_law_1065 : decode b_Law_law 1065 = .ok (.iload 4, 2) := by decide +kernel
theorem d_Law_law_1067 : decode b_Law_law 1067 = .ok (.iconst 2, 1) := by decide +kernel
theorem d_Law_law_1068 : decode b_Law_law 1068 = .ok (.iadd, 1) := by decide +kernel
theorem d_Law_law_1069 : decode b_Law_law 1069 = .ok (.iaload, 1) := by decide +kernel
theorem d_Law_law_1070 : decode b_Law_law 1070 = .ok (.i2l, 1) := by decide +kernel
theorem d_Law_law_1071 : decode b_Law_law 1071 = .ok (.bipush 32, 2) := by decide +kernel
theorem d_Law_law_1073 : decode b_Law_law 1073 = .ok (.lshl, 1) := by decide +kernel
theorem d_Law_law_1074 : decode b_Law_law 1074 = .ok (.aload_n 0, 1) := by decide +kernel
theorem d_Law_law_1075 : decode b_Law_law 1075 = .ok (.iload 4, 2) := by decide +kernel
theorem d_Law_law_1077 : decode b_Law_law 1077 = .ok (.iconst 3, 1) := by decide +kernel
theorem d_Law_law_1078 : decode b_Law_law 1078 = .ok (.iadd, 1) := by decide +kernel
theorem d_Law_law_1079 : decode b_Law_law 1079 = .ok (.iaload, 1) := by decide +kernel
theorem d_Law_law_1080 : decode b_Law_law 1080 = .ok (.i2l, 1) := by decide +kernel
theorem d_Law_law_1081 : decode b_Law_law 1081 = .ok (.ldc2_w 97, 3) := by decide +kernel
theorem d_Law_law_1084 : decode b_Law_law 1084 = .ok (.land, 1) := by decide +kernel
theorem d_Law_law_1085 : decode b_Law_law 1085 = .ok (.lor, 1) := by decide +kernel
theorem d_Law_law_1086 : decode b_Law_law 1086 = .ok (.invokevirtual 142, 3) := by decide +kernel
theorem d_Law_law_1089 : decode b_Law_law 1089 = .ok (.aload_n 2, 1) := by decide +kernel
theorem d_Law_law_1090 : decode b_Law_law 1090 = .ok (.invokevirtual 70, 3) := by decide +kernel
theorem d_Law_law_1093 : decode b_Law_law 1093 = .ok (.iload 5, 2) := by decide +kernel
theorem d_Law_law_1095 : decode b_Law_law 1095 = .ok (.if_icmp .eq 5, 3) := by decide +kernel
theorem d_Law_law_1098 : decode b_Law_law 1098 = .ok (.iconst 0, 1) := by decide +kernel
theorem d_Law_law_1099 : decode b_Law_law 1099 = .ok (.ireturn, 1) := by decide +kernel
theorem d_Law_law_1100 : decode b_Law_law 1100 = .ok (.goto 110, 3) := by decide +kernel
theorem d_Law_law_1103 : decode b_Law_law 1103 = .ok (.aload_n 1, 1) := by decide +kernel
theorem d_Law_law_1104 : decode b_Law_law 1104 = .ok (.aload_n 0, 1) := by decide +kernel
theorem d_Law_law_1105 : decode b_Law_law 1105 = .ok (.iload 4, 2) := by decide +kernel
theorem d_Law_law_1107 : decode b_Law_law 1107 = .ok (.iconst 1, 1) := by decide +kernel
theorem d_Law_law_1108 : decode b_Law_law 1108 = .ok (.iadd, 1) := by decide +kernel
theorem d_Law_law_1109 : decode b_Law_law 1109 = .ok (.iaload, 1) := by decide +kernel
theorem d_Law_law_1110 : decode b_Law_law 1110 = .ok (.aload_n 3, 1) := by decide +kernel
theorem d_Law_law_1111 : decode b_Law_law 1111 = .ok (.invokestatic 143, 3) := by decide +kernel
theorem d_Law_law_1114 : decode b_Law_law 1114 = .ok (.istore 5, 2) := by decide +kernel
theorem d_Law_law_1116 : decode b_Law_law 1116 = .ok (.aload_n 2, 1) := by decide +kernel
theorem d_Law_law_1117 : decode b_Law_law 1117 = .ok (.aload_n 0, 1) := by decide +kernel
theorem d_Law_law_1118 : decode b_Law_law 1118 = .ok (.iload 4, 2) := by decide +kernel
theorem d_Law_law_1120 : decode b_Law_law 1120 = .ok (.iconst 1, 1) := by decide +kernel
theorem d_Law_law_1121 : decode b_Law_law 1121 = .ok (.iadd, 1) := by decide +kernel
theorem d_Law_law_1122 : decode b_Law_law 1122 = .ok (.iaload, 1) := by decide +kernel
theorem d_Law_law_1123 : decode b_Law_law 1123 = .ok (.invokevirtual 145, 3) := by decide +kernel
theorem d_Law_law_1126 : decode b_Law_law 1126 = .ok (.istore 6, 2) := by decide +kernel
theorem d_Law_law_1128 : decode b_Law_law 1128 = .ok (.aload_n 2, 1) := by decide +kernel
theorem d_Law_law_1129 : decode b_Law_law 1129 = .ok (.invokevirtual 70, 3) := by decide +kernel
theorem d_Law_law_1132 : decode b_Law_law 1132 = .ok (.iload 5, 2) := by decide +kernel
theorem d_Law_law_1134 : decode b_Law_law 1134 = .ok (.if_icmp .eq 5, 3) := by decide +kernel
theorem d_Law_law_1137 : decode b_Law_law 1137 = .ok (.iconst 0, 1) := by decide +kernel
theorem d_Law_law_1138 : decode b_Law_law 1138 = .ok (.ireturn, 1) := by decide +kernel
theorem d_Law_law_1139 : decode b_Law_law 1139 = .ok (.iload 5, 2) := by decide +kernel
theorem d_Law_law_1141 : decode b_Law_law 1141 = .ok (.ifCond .ne 15, 3) := by decide +kernel
theorem d_Law_law_1144 : decode b_Law_law 1144 = .ok (.aload_n 3, 1) := by decide +kernel
theorem d_Law_law_1145 : decode b_Law_law 1145 = .ok (.iconst 0, 1) := by decide +kernel
theorem d_Law_law_1146 : decode b_Law_law 1146 = .ok (.laload, 1) := by decide +kernel
theorem d_Law_law_1147 : decode b_Law_law 1147 = .ok (.iload 6, 2) := by decide +kernel
theorem d_Law_law_1149 : decode b_Law_law 1149 = .ok (.i2l, 1) := by decide +kernel
theorem d_Law_law_1150 : decode b_Law_law 1150 = .ok (.lcmp, 1) := by decide +kernel
theorem d_Law_law_1151 : decode b_Law_law 1151 = .ok (.ifCond .eq 5, 3) := by decide +kernel
theorem d_Law_law_1154 : decode b_Law_law 1154 = .ok (.iconst 0, 1) := by decide +kernel
theorem d_Law_law_1155 : decode b_Law_law 1155 = .ok (.ireturn, 1) := by decide +kernel
theorem d_Law_law_1156 : decode b_Law_law 1156 = .ok (.goto 54, 3) := by decide +kernel
theorem d_Law_law_1159 : decode b_Law_law 1159 = .ok (.aload_n 1, 1) := by decide +kernel
theorem d_Law_law_1160 : decode b_Law_law 1160 = .ok (.aload_n 0, 1) := by decide +kernel
theorem d_Law_law_1161 : decode b_Law_law 1161 = .ok (.iload 4, 2) := by decide +kernel
theorem d_Law_law_1163 : decode b_Law_law 1163 = .ok (.iconst 1, 1) := by decide +kernel
theorem d_Law_law_1164 : decode b_Law_law 1164 = .ok (.iadd, 1) := by decide +kernel
theorem d_Law_law_1165 : decode b_Law_law 1165 = .ok (.iaload, 1) := by decide +kernel
theorem d_Law_law_1166 : decode b_Law_law 1166 = .ok (.invokevirtual 146, 3) := by decide +kernel
theorem d_Law_law_1169 : decode b_Law_law 1169 = .ok (.aload_n 2, 1) := by decide +kernel
theorem d_Law_law_1170 : decode b_Law_law 1170 = .ok (.aload_n 0, 1) := by decide +kernel
theorem d_Law_law_1171 : decode b_Law_law 1171 = .ok (.iload 4, 2) := by decide +kernel
theorem d_Law_law_1173 : decode b_Law_law 1173 = .ok (.iconst 1, 1) := by decide +kernel
theorem d_Law_law_1174 : decode b_Law_law 1174 = .ok (.iadd, 1) := by decide +kernel
theorem d_Law_law_1175 : decode b_Law_law 1175 = .ok (.iaload, 1) := by decide +kernel
theorem d_Law_law_1176 : decode b_Law_law 1176 = .ok (.invokevirtual 150, 3) := by decide +kernel
theorem d_Law_law_1179 : decode b_Law_law 1179 = .ok (.lcmp, 1) := by decide +kernel
theorem d_Law_law_1180 : decode b_Law_law 1180 = .ok (.ifCond .eq 30, 3) := by decide +kernel
theorem d_Law_law_1183 : decode b_Law_law 1183 = .ok (.iconst 0, 1) := by decide +kernel
theorem d_Law_law_1184 : decode b_Law_law 1184 = .ok (.ireturn, 1) := by decide +kernel
theorem d_Law_law_1185 : decode b_Law_law 1185 = .ok (.aload_n 1, 1) := by decide +kernel
theorem d_Law_law_1186 : decode b_Law_law 1186 = .ok (.aload_n 0, 1) := by decide +kernel
theorem d_Law_law_1187 : decode b_Law_law 1187 = .ok (.iload 4, 2) := by decide +kernel
theorem d_Law_law_1189 : decode b_Law_law 1189 = .ok (.iconst 1, 1) := by decide +kernel
theorem d_Law_law_1190 : decode b_Law_law 1190 = .ok (.iadd, 1) := by decide +kernel
theorem d_Law_law_1191 : decode b_Law_law 1191 = .ok (.iaload, 1) := by decide +kernel
theorem d_Law_law_1192 : decode b_Law_law 1192 = .ok (.invokevirtual 151, 3) := by decide +kernel
theorem d_Law_law_1195 : decode b_Law_law 1195 = .ok (.aload_n 2, 1) := by decide +kernel
theorem d_Law_law_1196 : decode b_Law_law 1196 = .ok (.aload_n 0, 1) := by decide +kernel
theorem d_Law_law_1197 : decode b_Law_law 1197 = .ok (.iload 4, 2) := by decide +kernel
theorem d_Law_law_1199 : decode b_Law_law 1199 = .ok (.iconst 1, 1) := by decide +kernel
theorem d_Law_law_1200 : decode b_Law_law 1200 = .ok (.iadd, 1) := by decide +kernel
theorem d_Law_law_1201 : decode b_Law_law 1201 = .ok (.iaload, 1) := by decide +kernel
theorem d_Law_law_1202 : decode b_Law_law 1202 = .ok (.invokevirtual 154, 3) := by decide +kernel
theorem d_Law_law_1205 : decode b_Law_law 1205 = .ok (.if_icmp .eq 5, 3) := by decide +kernel
theorem d_Law_law_1208 : decode b_Law_law 1208 = .ok (.iconst 0, 1) := by decide +kernel
theorem d_Law_law_1209 : decode b_Law_law 1209 = .ok (.ireturn, 1) := by decide +kernel
theorem d_Law_law_1210 : decode b_Law_law 1210 = .ok (.iinc 4 6, 3) := by decide +kernel
theorem d_Law_law_1213 : decode b_Law_law 1213 = .ok (.goto (-1190), 3) := by decide +kernel
theorem d_Law_law_1216 : decode b_Law_law 1216 = .ok (.iconst 1, 1) := by decide +kernel
theorem d_Law_law_1217 : decode b_Law_law 1217 = .ok (.ireturn, 1) := by decide +kernel
