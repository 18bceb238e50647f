theorem dn_d_Law_law_901 : decode dn_c_Law_law 901 = .ok (.iconst 5, 1) := by decide +kernel
theorem dn_d_Law_law_902 : decode dn_c_Law_law 902 = .ok (.iadd, 1) := by decide +kernel
theorem dn_d_Law_law_903 : decode dn_c_Law_law 903 = .ok (.iaload, 1) := by decide +kernel
theorem dn_d_Law_law_904 : decode dn_c_Law_law 904 = .ok (.i2l, 1) := by decide +kernel
theorem dn_d_Law_law_905 : decode dn_c_Law_law 905 = .ok (.bipush 32, 2) := by decide +kernel
theorem dn_d_Law_law_907 : decode dn_c_Law_law 907 = .ok (.lshl, 1) := by decide +kernel
theorem dn_d_Law_law_908 : decode dn_c_Law_law 908 = .ok (.aload_n 0, 1) := by decide +kernel
theorem dn_d_Law_law_909 : decode dn_c_Law_law 909 = .ok (.iload 4, 2) := by decide +kernel
theorem dn_d_Law_law_911 : decode dn_c_Law_law 911 = .ok (.bipush 6, 2) := by decide +kernel
theorem dn_d_Law_law_913 : decode dn_c_Law_law 913 = .ok (.iadd, 1) := by decide +kernel
theorem dn_d_Law_law_914 : decode dn_c_Law_law 914 = .ok (.iaload, 1) := by decide +kernel
theorem dn_d_Law_law_915 : decode dn_c_Law_law 915 = .ok (.i2l, 1) := by decide +kernel
theorem dn_d_Law_law_916 : decode dn_c_Law_law 916 = .ok (.ldc2_w 67, 3) := by decide +kernel
theorem dn_d_Law_law_919 : decode dn_c_Law_law 919 = .ok (.land, 1) := by decide +kernel
theorem dn_d_Law_law_920 : decode dn_c_Law_law 920 = .ok (.lor, 1) := by decide +kernel
theorem dn_d_Law_law_921 : decode dn_c_Law_law 921 = .ok (.aload_n 0, 1) := by decide +kernel
theorem dn_d_Law_law_922 : decode dn_c_Law_law 922 = .ok (.iload 4, 2) := by decide +kernel
theorem dn_d_Law_law_924 : decode dn_c_Law_law 924 = .ok (.bipush 7, 2) := by decide +kernel
theorem dn_d_Law_law_926 : decode dn_c_Law_law 926 = .ok (.iadd, 1) := by decide +kernel
theorem dn_d_Law_law_927 : decode dn_c_Law_law 927 = .ok (.iaload, 1) := by decide +kernel
theorem dn_d_Law_law_928 : decode dn_c_Law_law 928 = .ok (.i2l, 1) := by decide +kernel
theorem dn_d_Law_law_929 : decode dn_c_Law_law 929 = .ok (.bipush 32, 2) := by decide +kernel
theorem dn_d_Law_law_931 : decode dn_c_Law_law 931 = .ok (.lshl, 1) := by decide +kernel
theorem dn_d_Law_law_932 : decode dn_c_Law_law 932 = .ok (.aload_n 0, 1) := by decide +kernel
theorem dn_d_Law_law_933 : decode dn_c_Law_law 933 = .ok (.iload 4, 2) := by decide +kernel
theorem dn_d_Law_law_935 : decode dn_c_Law_law 935 = .ok (.bipush 8, 2) := by decide +kernel
theorem dn_d_Law_law_937 : decode dn_c_Law_law 937 = .ok (.iadd, 1) := by decide +kernel
theorem dn_d_Law_law_938 : decode dn_c_Law_law 938 = .ok (.iaload, 1) := by decide +kernel
theorem dn_d_Law_law_939 : decode dn_c_Law_law 939 = .ok (.i2l, 1) := by decide +kernel
theorem dn_d_Law_law_940 : decode dn_c_Law_law 940 = .ok (.ldc2_w 67, 3) := by decide +kernel
theorem dn_d_Law_law_943 : decode dn_c_Law_law 943 = .ok (.land, 1) := by decide +kernel
theorem dn_d_Law_law_944 : decode dn_c_Law_law 944 = .ok (.lor, 1) := by decide +kernel
theorem dn_d_Law_law_945 : decode dn_c_Law_law 945 = .ok (.invokevirtual 107, 3) := by decide +kernel
theorem dn_d_Law_law_948 : decode dn_c_Law_law 948 = .ok (.if_icmp .eq 830, 3) := by decide +kernel
theorem dn_d_Law_law_951 : decode dn_c_Law_law 951 = .ok (.iconst 0, 1) := by decide +kernel
theorem dn_d_Law_law_952 : decode dn_c_Law_law 952 = .ok (.ireturn, 1) := by decide +kernel
theorem dn_d_Law_law_953 : decode dn_c_Law_law 953 = .ok (.aload_n 1, 1) := by decide +kernel
theorem dn_d_Law_law_954 : decode dn_c_Law_law 954 = .ok (.aload_n 0, 1) := by decide +kernel
theorem dn_d_Law_law_955 : decode dn_c_Law_law 955 = .ok (.iload 4, 2) := by decide +kernel
theorem dn_d_Law_law_957 : decode dn_c_Law_law 957 = .ok (.iconst 1, 1) := by decide +kernel
theorem dn_d_Law_law_958 : decode dn_c_Law_law 958 = .ok (.iadd, 1) := by decide +kernel
theorem dn_d_Law_law_959 : decode dn_c_Law_law 959 = .ok (.iaload, 1) := by decide +kernel
theorem dn_d_Law_law_960 : decode dn_c_Law_law 960 = .ok (.aload_n 0, 1) := by decide +kernel
theorem dn_d_Law_law_961 : decode dn_c_Law_law 961 = .ok (.iload 4, 2) := by decide +kernel
theorem dn_d_Law_law_963 : decode dn_c_Law_law 963 = .ok (.iconst 2, 1) := by decide +kernel
theorem dn_d_Law_law_964 : decode dn_c_Law_law 964 = .ok (.iadd, 1) := by decide +kernel
theorem dn_d_Law_law_965 : decode dn_c_Law_law 965 = .ok (.iaload, 1) := by decide +kernel
theorem dn_d_Law_law_966 : decode dn_c_Law_law 966 = .ok (.aload_n 0, 1) := by decide +kernel
theorem dn_d_Law_law_967 : decode dn_c_Law_law 967 = .ok (.iload 4, 2) := by decide +kernel
theorem dn_d_Law_law_969 : decode dn_c_Law_law 969 = .ok (.iconst 3, 1) := by decide +kernel
theorem dn_d_Law_law_970 : decode dn_c_Law_law 970 = .ok (.iadd, 1) := by decide +kernel
theorem dn_d_Law_law_971 : decode dn_c_Law_law 971 = .ok (.iaload, 1) := by decide +kernel
theorem dn_d_Law_law_972 : decode dn_c_Law_law 972 = .ok (.i2l, 1) := by decide +kernel
theorem dn_d_Law_law_973 : decode dn_c_Law_law 973 = .ok (.bipush 32, 2) := by decide +kernel
theorem dn_d_Law_law_975 : decode dn_c_Law_law 975 = .ok (.lshl, 1) := by decide +kernel
theorem dn_d_Law_law_976 : decode dn_c_Law_law 976 = .ok (.aload_n 0, 1) := by decide +kernel
theorem dn_d_Law_law_977 : decode dn_c_Law_law 977 = .ok (.iload 4, 2) := by decide +kernel
theorem dn_d_Law_law_979 : decode dn_c_Law_law 979 = .ok (.iconst 4, 1) := by decide +kernel
theorem dn_d_Law_law_980 : decode dn_c_Law_law 980 = .ok (.iadd, 1) := by decide +kernel
theorem dn_d_Law_law_981 : decode dn_c_Law_law 981 = .ok (.iaload, 1) := by decide +kernel
theorem dn_d_Law_law_982 : decode dn_c_Law_law 982 = .ok (.i2l, 1) := by decide +kernel
theorem dn_d_Law_law_983 : decode dn_c_Law_law 983 = .ok (.ldc2_w 67, 3) := by decide +kernel
theorem dn_d_Law_law_986 : decode dn_c_Law_law 986 = .ok (.land, 1) := by decide +kernel
theorem dn_d_Law_law_987 : decode dn_c_Law_law 987 = .ok (.lor, 1) := by decide +kernel
theorem dn_d_Law_law_988 : decode dn_c_Law_law 988 = .ok (.aload_n 3, 1) := by decide +kernel
theorem dn_d_Law_law_989 : decode dn_c_Law_law 989 = .ok (.invokestatic 108, 3) := by decide +kernel
theorem dn_d_Law_law_992 : decode dn_c_Law_law 992 = .ok (.istore 5, 2) := by decide +kernel
theorem dn_d_Law_law_994 : decode dn_c_Law_law 994 = .ok (.aload_n 2, 1) := by decide +kernel
theorem dn_d_Law_law_995 : decode dn_c_Law_law 995 = .ok (.aload_n 0, 1) := by decide +kernel
theorem dn_d_Law_law_996 : decode dn_c_Law_law 996 = .ok (.iload 4, 2) := by decide +kernel
theorem dn_d_Law_law_998 : decode dn_c_Law_law 998 = .ok (.iconst 1, 1) := by decide +kernel
theorem dn_d_Law_law_999 : decode dn_c_Law_law 999 = .ok (.iadd, 1) := by decide +kernel
theorem dn_d_Law_law_1000 : decode dn_c_Law_law 1000 = .ok (.iaload, 1) := by decide +kernel
theorem dn_d_Law_law_1001 : decode dn_c_Law_law 1001 = .ok (.aload_n 0, 1) := by decide +kernel
theorem dn_d_Law_law_1002 : decode dn_c_Law_law 1002 = .ok (.iload 4, 2) := by decide +kernel
theorem dn_d_Law_law_1004 : decode dn_c_Law_law 1004 = .ok (.iconst 2, 1) := by decide +kernel
theorem dn_d_Law_law_1005 : decode dn_c_Law_law 1005 = .ok (.iadd, 1) := by decide +kernel
theorem dn_d_Law_law_1006 : decode dn_c_Law_law 1006 = .ok (.iaload, 1) := by decide +kernel
theorem dn_d_Law_law_1007 : decode dn_c_Law_law 1007 = .ok (.aload_n 0, 1) := by decide +kernel
theorem dn_d_Law_law_1008 : decode dn_c_Law_law 1008 = .ok (.iload 4, 2) := by decide +kernel
theorem dn_d_Law_law_1010 : decode dn_c_Law_law 1010 = .ok (.iconst 3, 1) := by decide +kernel
theorem dn_d_Law_law_1011 : decode dn_c_Law_law 1011 = .ok (.iadd, 1) := by decide +kernel
theorem dn_d_Law_law_1012 : decode dn_c_Law_law 1012 = .ok (.iaload, 1) := by decide +kernel
theorem dn_d_Law_law_1013 : decode dn_c_Law_law 1013 = .ok (.i2l, 1) := by decide +kernel
theorem dn_d_Law_law_1014 : decode dn_c_Law_law 1014 = .ok (.bipush 32, 2) := by decide +kernel
theorem dn_d_Law_law_1016 : decode dn_c_Law_law 1016 = .ok (.lshl, 1) := by decide +kernel
theorem dn_d_Law_law_1017 : decode dn_c_Law_law 1017 = .ok (.aload_n 0, 1) := by decide +kernel
theorem dn_d_Law_law_1018 : decode dn_c_Law_law 1018 = .ok (.iload 4, 2) := by decide +kernel
theorem dn_d_Law_law_1020 : decode dn_c_Law_law 1020 = .ok (.iconst 4, 1) := by decide +kernel
theorem dn_d_Law_law_1021 : decode dn_c_Law_law 1021 = .ok (.iadd, 1) := by decide +kernel
theorem dn_d_Law_law_1022 : decode dn_c_Law_law 1022 = .ok (.iaload, 1) := by decide +kernel
theorem dn_d_Law_law_1023 : decode dn_c_Law_law 1023 = .ok (.i2l, 1) := by decide +kernel
theorem dn_d_Law_law_1024 : decode dn_c_Law_law 1024 = .ok (.ldc2_w 67, 3) := by decide +kernel
theorem dn_d_Law_law_1027 : decode dn_c_Law_law 1027 = .ok (.land, 1) := by decide +kernel
theorem dn_d_Law_law_1028 : decode dn_c_Law_law 1028 = .ok (.lor, 1) := by decide +kernel
theorem dn_d_Law_law_1029 : decode dn_c_Law_law 1029 = .ok (.invokevirtual 111, 3) := by decide +kernel
theorem dn_d_Law_law_1032 : decode dn_c_Law_law 1032 = .ok (.istore 6, 2) := by decide +kernel
theorem dn_d_Law_law_1034 : decode dn_c_Law_law 1034 = .ok (.aload_n 2, 1) := by decide +kernel
theorem dn_d_Law_law_1035 : decode dn_c_Law_law 1035 = .ok (.invokevirtual 82, 3) := by decide +kernel
theorem dn_d_Law_law_1038 : decode dn_c_Law_law 1038 = .ok (.iload 5, 2) := by decide +kernel
theorem dn_d_Law_law_1040 : decode dn_c_Law_law 1040 = .ok (.if_icmp .eq 5, 3) := by decide +kernel
theorem dn_d_Law_law_1043 : decode dn_c_Law_law 1043 = .ok (.iconst 0, 1) := by decide +kernel
theorem dn_d_Law_law_1044 : decode dn_c_Law_law 1044 = .ok (.ireturn, 1) := by decide +kernel
theorem dn_d_Law_law_1045 : decode dn_c_Law_law 1045 = .ok (.iload 5, 2) := by decide +kernel
theorem dn_d_Law_law_1047 : decode dn_c_Law_law 1047 = .ok (.ifCond .ne 15, 3) := by decide +kernel
theorem dn_d_Law_law_1050 : decode dn_c_Law_law 1050 = .ok (.aload_n 3, 1) := by decide +kernel
theorem dn_d_Law_law_1051 : decode dn_c_Law_law 1051 = .ok (.iconst 0, 1) := by decide +kernel
theorem dn_d_Law_law_1052 : decode dn_c_Law_law 1052 = .ok (.laload, 1) := by decide +kernel
theorem dn_d_Law_law_1053 : decode dn_c_Law_law 1053 = .ok (.iload 6, 2) := by decide +kernel
theorem dn_d_Law_law_1055 : decode dn_c_Law_law 1055 = .ok (.i2l, 1) := by decide +kernel
theorem dn_d_Law_law_1056 : decode dn_c_Law_law 1056 = .ok (.lcmp, 1) := by decide +kernel
theorem dn_d_Law_law_1057 : decode dn_c_Law_law 1057 = .ok (.ifCond .eq 5, 3) := by decide +kernel
theorem dn_d_Law_law_1060 : decode dn_c_Law_law 1060 = .ok (.iconst 0, 1) := by decide +kernel
theorem dn_d_Law_law_1061 : decode dn_c_Law_law 1061 = .ok (.ireturn, 1) := by decide +kernel
theorem dn_d_Law_law_1062 : decode dn_c_Law_law 1062 = .ok (.goto 716, 3) := by decide +kernel
theorem dn_d_Law_law_1065 : decode dn_c_Law_law 1065 = .ok (.aload_n 1, 1) := by decide +kernel
theorem dn_d_Law_law_1066 : decode dn_c_Law_law 1066 = .ok (.invokevirtual 112, 3) := by decide +kernel
theorem dn_d_Law_law_1069 : decode dn_c_Law_law 1069 = .ok (.aload_n 2, 1) := by decide +kernel
theorem dn_d_Law_law_1070 : decode dn_c_Law_law 1070 = .ok (.invokevirtual 115, 3) := by decide +kernel
theorem dn_d_Law_law_1073 : decode dn_c_Law_law 1073 = .ok (.if_icmp .eq 705, 3) := by decide +kernel
theorem dn_d_Law_law_1076 : decode dn_c_Law_law 1076 = .ok (.iconst 0, 1) := by decide +kernel
theorem dn_d_Law_law_1077 : decode dn_c_Law_law 1077 = .ok (.ireturn, 1) := by decide +kernel
theorem dn_d_Law_law_1078 : decode dn_c_Law_law 1078 = .ok (.aload_n 1, 1) := by decide +kernel
theorem dn_d_Law_law_1079 : decode dn_c_Law_law 1079 = .ok (.invokevirtual 116, 3) := by decide +kernel
theorem dn_d_Law_law_1082 : decode dn_c_Law_law 1082 = .ok (.aload_n 2, 1) := by decide +kernel
theorem dn_d_Law_law_1083 : decode dn_c_Law_law 1083 = .ok (.invokevirtual 119, 3) := by decide +kernel
theorem dn_d_Law_law_1086 : decode dn_c_Law_law 1086 = .ok (.if_icmp .eq 692, 3) := by decide +kernel
theorem dn_d_Law_law_1089 : decode dn_c_Law_law 1089 = .ok (.iconst 0, 1) := by decide +kernel
theorem dn_d_Law_law_1090 : decode dn_c_Law_law 1090 = .ok (.ireturn, 1) := by decide +kernel
theorem dn_d_Law_law_1091 : decode dn_c_Law_law 1091 = .ok (.aload_n 1, 1) := by decide +kernel
theorem dn_d_Law_law_1092 : decode dn_c_Law_law 1092 = .ok (.aload_n 0, 1) := by decide +kernel
theorem dn_d_Law_law_1093 : decode dn_c_Law_law 1093 = .ok (.iload 4, 2) := by decide +kernel
theorem dn_d_Law_law_1095 : decode dn_c_Law_law 1095 = .ok (.iconst 1, 1) := by decide +kernel
theorem dn_d_Law_law_1096 : decode dn_c_Law_law 1096 = .ok (.iadd, 1) := by decide +kernel
theorem dn_d_Law_law_1097 : decode dn_c_Law_law 1097 = .ok (.iaload, 1) := by decide +kernel
theorem dn_d_Law_law_1098 : decode dn_c_Law_law 1098 = .ok (.aload_n 0, 1) := by decide +kernel
theorem dn_d_Law_law_1099 : decode dn_c_Law_law 1099 = .ok (.iload 4, 2) := by decide +kernel
theorem dn_d_Law_law_1101 : decode dn_c_Law_law 1101 = .ok (.iconst 2, 1) := by decide +kernel
theorem dn_d_Law_law_1102 : decode dn_c_Law_law 1102 = .ok (.iadd, 1) := by decide +kernel
theorem dn_d_Law_law_1103 : decode dn_c_Law_law 1103 = .ok (.iaload, 1) := by decide +kernel
theorem dn_d_Law_law_1104 : decode dn_c_Law_law 1104 = .ok (.aload_n 3, 1) := by decide +kernel
theorem dn_d_Law_law_1105 : decode dn_c_Law_law 1105 = .ok (.invokestatic 120, 3) := by decide +kernel
theorem dn_d_Law_law_1108 : decode dn_c_Law_law 1108 = .ok (.istore 5, 2) := by decide +kernel
theorem dn_d_Law_law_1110 : decode dn_c_Law_law 1110 = .ok (.aload_n 2, 1) := by decide +kernel
theorem dn_d_Law_law_1111 : decode dn_c_Law_law 1111 = .ok (.aload_n 0, 1) := by decide +kernel
theorem dn_d_Law_law_1112 : decode dn_c_Law_law 1112 = .ok (.iload 4, 2) := by decide +kernel
theorem dn_d_Law_law_1114 : decode dn_c_Law_law 1114 = .ok (.iconst 1, 1) := by decide +kernel
theorem dn_d_Law_law_1115 : decode dn_c_Law_law 1115 = .ok (.iadd, 1) := by decide +kernel
theorem dn_d_Law_law_1116 : decode dn_c_Law_law 1116 = .ok (.iaload, 1) := by decide +kernel
theorem dn_d_Law_law_1117 : decode dn_c_Law_law 1117 = .ok (.aload_n 0, 1) := by decide +kernel
theorem dn_d_Law_law_1118 : decode dn_c_Law_law 1118 = .ok (.iload 4, 2) := by decide +kernel
theorem dn_d_Law_law_1120 : decode dn_c_Law_law 1120 = .ok (.iconst 2, 1) := by decide +kernel
theorem dn_d_Law_law_1121 : decode dn_c_Law_law 1121 = .ok (.iadd, 1) := by decide +kernel
theorem dn_d_Law_law_1122 : decode dn_c_Law_law 1122 = .ok (.iaload, 1) := by decide +kernel
theorem dn_d_Law_law_1123 : decode dn_c_Law_law 1123 = .ok (.invokevirtual 123, 3) := by decide +kernel
theorem dn_d_Law_law_1126 : decode dn_c_Law_law 1126 = .ok (.lstore 6, 2) := by decide +kernel
theorem dn_d_Law_law_1128 : decode dn_c_Law_law 1128 = .ok (.aload_n 2, 1) := by decide +kernel
theorem dn_d_Law_law_1129 : decode dn_c_Law_law 1129 = .ok (.invokevirtual 82, 3) := by decide +kernel
theorem dn_d_Law_law_1132 : decode dn_c_Law_law 1132 = .ok (.iload 5, 2) := by decide +kernel
theorem dn_d_Law_law_1134 : decode dn_c_Law_law 1134 = .ok (.if_icmp .eq 5, 3) := by decide +kernel
theorem dn_d_Law_law_1137 : decode dn_c_Law_law 1137 = .ok (.iconst 0, 1) := by decide +kernel
theorem dn_d_Law_law_1138 : decode dn_c_Law_law 1138 = .ok (.ireturn, 1) := by decide +kernel
theorem dn_d_Law_law_1139 : decode dn_c_Law_law 1139 = .ok (.iload 5, 2) := by decide +kernel
theorem dn_d_Law_law_1141 : decode dn_c_Law_law 1141 = .ok (.ifCond .ne 14, 3) := by decide +kernel
theorem dn_d_Law_law_1144 : decode dn_c_Law_law 1144 = .ok (.aload_n 3, 1) := by decide +kernel
theorem dn_d_Law_law_1145 : decode dn_c_Law_law 1145 = .ok (.iconst 0, 1) := by decide +kernel
theorem dn_d_Law_law_1146 : decode dn_c_Law_law 1146 = .ok (.laload, 1) := by decide +kernel
theorem dn_d_Law_law_1147 : decode dn_c_Law_law 1147 = .ok (.lload 6, 2) := by decide +kernel
theorem dn_d_Law_law_1149 : decode dn_c_Law_law 1149 = .ok (.lcmp, 1) := by decide +kernel
theorem dn_d_Law_law_1150 : decode dn_c_Law_law 1150 = .ok (.ifCond .eq 5, 3) := by decide +kernel
theorem dn_d_Law_law_1153 : decode dn_c_Law_law 1153 = .ok (.iconst 0, 1) := by decide +kernel
theorem dn_d_Law_law_1154 : decode dn_c_Law_law 1154 = .ok (.ireturn, 1) := by decide +kernel
theorem dn_d_Law_law_1155 : decode dn_c_Law_law 1155 = .ok (.goto 623, 3) := by decide +kernel
theorem dn_d_Law_law_1158 : decode dn_c_Law_law 1158 = .ok (.aload_n 1, 1) := by decide +kernel
theorem dn_d_Law_law_1159 : decode dn_c_Law_law 1159 = .ok (.invokevirtual 124, 3) := by decide +kernel
theorem dn_d_Law_law_1162 : decode dn_c_Law_law 1162 = .ok (.aload_n 2, 1) := by decide +kernel
theorem dn_d_Law_law_1163 : decode dn_c_Law_law 1163 = .ok (.invokevirtual 128, 3) := by decide +kernel
theorem dn_d_Law_law_1166 : decode dn_c_Law_law 1166 = .ok (.lcmp, 1) := by decide +kernel
theorem dn_d_Law_law_1167 : decode dn_c_Law_law 1167 = .ok (.ifCond .eq 611, 3) := by decide +kernel
theorem dn_d_Law_law_1170 : decode dn_c_Law_law 1170 = .ok (.iconst 0, 1) := by decide +kernel
theorem dn_d_Law_law_1171 : decode dn_c_Law_law 1171 = .ok (.ireturn, 1) := by decide +kernel
theorem dn_d_Law_law_1172 : decode dn_c_Law_law 1172 = .ok (.aload_n 1, 1) := by decide +kernel
theorem dn_d_Law_law_1173 : decode dn_c_Law_law 1173 = .ok (.aload_n 0, 1) := by decide +kernel
theorem dn_d_Law_law_1174 : decode dn_c_Law_law 1174 = .ok (.iload 4, 2) := by decide +kernel
theorem dn_d_Law_law_1176 : decode dn_c_Law_law 1176 = .ok (.iconst 1, 1) := by decide +kernel
theorem dn_d_Law_law_1177 : decode dn_c_Law_law 1177 = .ok (.iadd, 1) := by decide +kernel
theorem dn_d_Law_law_1178 : decode dn_c_Law_law 1178 = .ok (.iaload, 1) := by decide +kernel
theorem dn_d_Law_law_1179 : decode dn_c_Law_law 1179 = .ok (.i2l, 1) := by decide +kernel
theorem dn_d_Law_law_1180 : decode dn_c_Law_law 1180 = .ok (.bipush 32, 2) := by decide +kernel
theorem dn_d_Law_law_1182 : decode dn_c_Law_law 1182 = .ok (.lshl, 1) := by decide +kernel
theorem dn_d_Law_law_1183 : decode dn_c_Law_law 1183 = .ok (.aload_n 0, 1) := by decide +kernel
theorem dn_d_Law_law_1184 : decode dn_c_Law_law 1184 = .ok (.iload 4, 2) := by decide +kernel
theorem dn_d_Law_law_1186 : decode dn_c_Law_law 1186 = .ok (.iconst 2, 1) := by decide +kernel
theorem dn_d_Law_law_1187 : decode dn_c_Law_law 1187 = .ok (.iadd, 1) := by decide +kernel
theorem dn_d_Law_law_1188 : decode dn_c_Law_law 1188 = .ok (.iaload, 1) := by decide +kernel
theorem dn_d_Law_law_1189 : decode dn_c_Law_law 1189 = .ok (.i2l, 1) := by decide +kernel
theorem dn_d_Law_law_1190 : decode dn_c_Law_law 1190 = .ok (.ldc2_w 67, 3) := by decide +kernel
theorem dn_d_Law_law_1193 : decode dn_c_Law_law 1193 = .ok (.land, 1) := by decide +kernel
theorem dn_d_Law_law_1194 : decode dn_c_Law_law 1194 = .ok (.lor, 1) := by decide +kernel
theorem dn_d_Law_law_1195 : decode dn_c_Law_law 1195 = .ok (.aload_n 0, 1) := by decide +kernel
theorem dn_d_Law_law_1196 : decode dn_c_Law_law 1196 = .ok (.iload 4, 2) := by decide +kernel
theorem dn_d_Law_law_1198 : decode dn_c_Law_law 1198 = .ok (.iconst 3, 1) := by decide +kernel
theorem dn_d_Law_law_1199 : decode dn_c_Law_law 1199 = .ok (.iadd, 1) := by decide +kernel
