-- the law, on
theorem d_L_law_944 : decode b_L_law 944 = .ok (.iload 6, 2) := by decide +kernel
theorem d_L_law_946 : decode b_L_law 946 = .ok (.i2l, 1) := by decide +kernel
theorem d_L_law_947 : decode b_L_law 947 = .ok (.lcmp, 1) := by decide +kernel
theorem d_L_law_948 : decode b_L_law 948 = .ok (.ifCond .eq 5, 3) := by decide +kernel
theorem d_L_law_951 : decode b_L_law 951 = .ok (.iconst 0, 1) := by decide +kernel
theorem d_L_law_952 : decode b_L_law 952 = .ok (.ireturn, 1) := by decide +kernel
theorem d_L_law_953 : decode b_L_law 953 = .ok (.goto 199, 3) := by decide +kernel
theorem d_L_law_956 : decode b_L_law 956 = .ok (.aload_n 1, 1) := by decide +kernel
theorem d_L_law_957 : decode b_L_law 957 = .ok (.aload_n 0, 1) := by decide +kernel
theorem d_L_law_958 : decode b_L_law 958 = .ok (.iload 4, 2) := by decide +kernel
theorem d_L_law_960 : decode b_L_law 960 = .ok (.iconst 1, 1) := by decide +kernel
theorem d_L_law_961 : decode b_L_law 961 = .ok (.iadd, 1) := by decide +kernel
theorem d_L_law_962 : decode b_L_law 962 = .ok (.iaload, 1) := by decide +kernel
theorem d_L_law_963 : decode b_L_law 963 = .ok (.aload_n 0, 1) := by decide +kernel
theorem d_L_law_964 : decode b_L_law 964 = .ok (.iload 4, 2) := by decide +kernel
theorem d_L_law_966 : decode b_L_law 966 = .ok (.iconst 2, 1) := by decide +kernel
theorem d_L_law_967 : decode b_L_law 967 = .ok (.iadd, 1) := by decide +kernel
theorem d_L_law_968 : decode b_L_law 968 = .ok (.iaload, 1) := by decide +kernel
theorem d_L_law_969 : decode b_L_law 969 = .ok (.aload_n 3, 1) := by decide +kernel
theorem d_L_law_970 : decode b_L_law 970 = .ok (.invokestatic 117, 3) := by decide +kernel
theorem d_L_law_973 : decode b_L_law 973 = .ok (.istore 5, 2) := by decide +kernel
theorem d_L_law_975 : decode b_L_law 975 = .ok (.aload_n 2, 1) := by decide +kernel
theorem d_L_law_976 : decode b_L_law 976 = .ok (.aload_n 0, 1) := by decide +kernel
theorem d_L_law_977 : decode b_L_law 977 = .ok (.iload 4, 2) := by decide +kernel
theorem d_L_law_979 : decode b_L_law 979 = .ok (.iconst 1, 1) := by decide +kernel
theorem d_L_law_980 : decode b_L_law 980 = .ok (.iadd, 1) := by decide +kernel
theorem d_L_law_981 : decode b_L_law 981 = .ok (.iaload, 1) := by decide +kernel
theorem d_L_law_982 : decode b_L_law 982 = .ok (.aload_n 0, 1) := by decide +kernel
theorem d_L_law_983 : decode b_L_law 983 = .ok (.iload 4, 2) := by decide +kernel
theorem d_L_law_985 : decode b_L_law 985 = .ok (.iconst 2, 1) := by decide +kernel
theorem d_L_law_986 : decode b_L_law 986 = .ok (.iadd, 1) := by decide +kernel
theorem d_L_law_987 : decode b_L_law 987 = .ok (.iaload, 1) := by decide +kernel
theorem d_L_law_988 : decode b_L_law 988 = .ok (.invokevirtual 119, 3) := by decide +kernel
theorem d_L_law_991 : decode b_L_law 991 = .ok (.lstore 6, 2) := by decide +kernel
theorem d_L_law_993 : decode b_L_law 993 = .ok (.aload_n 2, 1) := by decide +kernel
theorem d_L_law_994 : decode b_L_law 994 = .ok (.invokevirtual 76, 3) := by decide +kernel
theorem d_L_law_997 : decode b_L_law 997 = .ok (.iload 5, 2) := by decide +kernel
theorem d_L_law_999 : decode b_L_law 999 = .ok (.if_icmp .eq 5, 3) := by decide +kernel
theorem d_L_law_1002 : decode b_L_law 1002 = .ok (.iconst 0, 1) := by decide +kernel
theorem d_L_law_1003 : decode b_L_law 1003 = .ok (.ireturn, 1) := by decide +kernel
theorem d_L_law_1004 : decode b_L_law 1004 = .ok (.iload 5, 2) := by decide +kernel
theorem d_L_law_1006 : decode b_L_law 1006 = .ok (.ifCond .ne 14, 3) := by decide +kernel
theorem d_L_law_1009 : decode b_L_law 1009 = .ok (.aload_n 3, 1) := by decide +kernel
theorem d_L_law_1010 : decode b_L_law 1010 = .ok (.iconst 0, 1) := by decide +kernel
theorem d_L_law_1011 : decode b_L_law 1011 = .ok (.laload, 1) := by decide +kernel
theorem d_L_law_1012 : decode b_L_law 1012 = .ok (.lload 6, 2) := by decide +kernel
theorem d_L_law_1014 : decode b_L_law 1014 = .ok (.lcmp, 1) := by decide +kernel
theorem d_L_law_1015 : decode b_L_law 1015 = .ok (.ifCond .eq 5, 3) := by decide +kernel
theorem d_L_law_1018 : decode b_L_law 1018 = .ok (.iconst 0, 1) := by decide +kernel
theorem d_L_law_1019 : decode b_L_law 1019 = .ok (.ireturn, 1) := by decide +kernel
theorem d_L_law_1020 : decode b_L_law 1020 = .ok (.goto 132, 3) := by decide +kernel
theorem d_L_law_1023 : decode b_L_law 1023 = .ok (.aload_n 1, 1) := by decide +kernel
theorem d_L_law_1024 : decode b_L_law 1024 = .ok (.aload_n 0, 1) := by decide +kernel
theorem d_L_law_1025 : decode b_L_law 1025 = .ok (.iload 4, 2) := by decide +kernel
theorem d_L_law_1027 : decode b_L_law 1027 = .ok (.iconst 1, 1) := by decide +kernel
theorem d_L_law_1028 : decode b_L_law 1028 = .ok (.iadd, 1) := by decide +kernel
theorem d_L_law_1029 : decode b_L_law 1029 = .ok (.iaload, 1) := by decide +kernel
theorem d_L_law_1030 : decode b_L_law 1030 = .ok (.aload_n 0, 1) := by decide +kernel
theorem d_L_law_1031 : decode b_L_law 1031 = .ok (.iload 4, 2) := by decide +kernel
theorem d_L_law_1033 : decode b_L_law 1033 = .ok (.iconst 2, 1) := by decide +kernel
theorem d_L_law_1034 : decode b_L_law 1034 = .ok (.iadd, 1) := by decide +kernel
theorem d_L_law_1035 : decode b_L_law 1035 = .ok (.iaload, 1) := by decide +kernel
theorem d_L_law_1036 : decode b_L_law 1036 = .ok (.aload_n 0, 1) := by decide +kernel
theorem d_L_law_1037 : decode b_L_law 1037 = .ok (.iload 4, 2) := by decide +kernel
theorem d_L_law_1039 : decode b_L_law 1039 = .ok (.iconst 3, 1) := by decide +kernel
theorem d_L_law_1040 : decode b_L_law 1040 = .ok (.iadd, 1) := by decide +kernel
theorem d_L_law_1041 : decode b_L_law 1041 = .ok (.iaload, 1) := by decide +kernel
theorem d_L_law_1042 : decode b_L_law 1042 = .ok (.aload_n 0, 1) := by decide +kernel
theorem d_L_law_1043 : decode b_L_law 1043 = .ok (.iload 4, 2) := by decide +kernel
theorem d_L_law_1045 : decode b_L_law 1045 = .ok (.iconst 4, 1) := by decide +kernel
theorem d_L_law_1046 : decode b_L_law 1046 = .ok (.iadd, 1) := by decide +kernel
theorem d_L_law_1047 : decode b_L_law 1047 = .ok (.iaload, 1) := by decide +kernel
theorem d_L_law_1048 : decode b_L_law 1048 = .ok (.aload_n 0, 1) := by decide +kernel
theorem d_L_law_1049 : decode b_L_law 1049 = .ok (.iload 4, 2) := by decide +kernel
theorem d_L_law_1051 : decode b_L_law 1051 = .ok (.iconst 5, 1) := by decide +kernel
theorem d_L_law_1052 : decode b_L_law 1052 = .ok (.iadd, 1) := by decide +kernel
theorem d_L_law_1053 : decode b_L_law 1053 = .ok (.iaload, 1) := by decide +kernel
theorem d_L_law_1054 : decode b_L_law 1054 = .ok (.invokevirtual 120, 3) := by decide +kernel
theorem d_L_law_1057 : decode b_L_law 1057 = .ok (.aload_n 2, 1) := by decide +kernel
theorem d_L_law_1058 : decode b_L_law 1058 = .ok (.aload_n 0, 1) := by decide +kernel
theorem d_L_law_1059 : decode b_L_law 1059 = .ok (.iload 4, 2) := by decide +kernel
theorem d_L_law_1061 : decode b_L_law 1061 = .ok (.iconst 1, 1) := by decide +kernel
theorem d_L_law_1062 : decode b_L_law 1062 = .ok (.iadd, 1) := by decide +kernel
theorem d_L_law_1063 : decode b_L_law 1063 = .ok (.iaload, 1) := by decide +kernel
theorem d_L_law_1064 : decode b_L_law 1064 = .ok (.aload_n 0, 1) := by decide +kernel
theorem d_L_law_1065 : decode b_L_law 1065 = .ok (.iload 4, 2) := by decide +kernel
theorem d_L_law_1067 : decode b_L_law 1067 = .ok (.iconst 2, 1) := by decide +kernel
theorem d_L_law_1068 : decode b_L_law 1068 = .ok (.iadd, 1) := by decide +kernel
theorem d_L_law_1069 : decode b_L_law 1069 = .ok (.iaload, 1) := by decide +kernel
theorem d_L_law_1070 : decode b_L_law 1070 = .ok (.aload_n 0, 1) := by decide +kernel
theorem d_L_law_1071 : decode b_L_law 1071 = .ok (.iload 4, 2) := by decide +kernel
theorem d_L_law_1073 : decode b_L_law 1073 = .ok (.iconst 3, 1) := by decide +kernel
theorem d_L_law_1074 : decode b_L_law 1074 = .ok (.iadd, 1) := by decide +kernel
theorem d_L_law_1075 : decode b_L_law 1075 = .ok (.iaload, 1) := by decide +kernel
theorem d_L_law_1076 : decode b_L_law 1076 = .ok (.aload_n 0, 1) := by decide +kernel
theorem d_L_law_1077 : decode b_L_law 1077 = .ok (.iload 4, 2) := by decide +kernel
theorem d_L_law_1079 : decode b_L_law 1079 = .ok (.iconst 4, 1) := by decide +kernel
theorem d_L_law_1080 : decode b_L_law 1080 = .ok (.iadd, 1) := by decide +kernel
theorem d_L_law_1081 : decode b_L_law 1081 = .ok (.iaload, 1) := by decide +kernel
theorem d_L_law_1082 : decode b_L_law 1082 = .ok (.aload_n 0, 1) := by decide +kernel
theorem d_L_law_1083 : decode b_L_law 1083 = .ok (.iload 4, 2) := by decide +kernel
theorem d_L_law_1085 : decode b_L_law 1085 = .ok (.iconst 5, 1) := by decide +kernel
theorem d_L_law_1086 : decode b_L_law 1086 = .ok (.iadd, 1) := by decide +kernel
theorem d_L_law_1087 : decode b_L_law 1087 = .ok (.iaload, 1) := by decide +kernel
theorem d_L_law_1088 : decode b_L_law 1088 = .ok (.invokevirtual 124, 3) := by decide +kernel
theorem d_L_law_1091 : decode b_L_law 1091 = .ok (.lcmp, 1) := by decide +kernel
theorem d_L_law_1092 : decode b_L_law 1092 = .ok (.ifCond .eq 60, 3) := by decide +kernel
theorem d_L_law_1095 : decode b_L_law 1095 = .ok (.iconst 0, 1) := by decide +kernel
theorem d_L_law_1096 : decode b_L_law 1096 = .ok (.ireturn, 1) := by decide +kernel
theorem d_L_law_1097 : decode b_L_law 1097 = .ok (.aload_n 1, 1) := by decide +kernel
theorem d_L_law_1098 : decode b_L_law 1098 = .ok (.aload_n 0, 1) := by decide +kernel
theorem d_L_law_1099 : decode b_L_law 1099 = .ok (.iload 4, 2) := by decide +kernel
theorem d_L_law_1101 : decode b_L_law 1101 = .ok (.iconst 1, 1) := by decide +kernel
theorem d_L_law_1102 : decode b_L_law 1102 = .ok (.iadd, 1) := by decide +kernel
theorem d_L_law_1103 : decode b_L_law 1103 = .ok (.iaload, 1) := by decide +kernel
theorem d_L_law_1104 : decode b_L_law 1104 = .ok (.aload_n 3, 1) := by decide +kernel
theorem d_L_law_1105 : decode b_L_law 1105 = .ok (.invokestatic 125, 3) := by decide +kernel
theorem d_L_law_1108 : decode b_L_law 1108 = .ok (.istore 5, 2) := by decide +kernel
theorem d_L_law_1110 : decode b_L_law 1110 = .ok (.aload_n 2, 1) := by decide +kernel
theorem d_L_law_1111 : decode b_L_law 1111 = .ok (.aload_n 0, 1) := by decide +kernel
theorem d_L_law_1112 : decode b_L_law 1112 = .ok (.iload 4, 2) := by decide +kernel
theorem d_L_law_1114 : decode b_L_law 1114 = .ok (.iconst 1, 1) := by decide +kernel
theorem d_L_law_1115 : decode b_L_law 1115 = .ok (.iadd, 1) := by decide +kernel
theorem d_L_law_1116 : decode b_L_law 1116 = .ok (.iaload, 1) := by decide +kernel
theorem d_L_law_1117 : decode b_L_law 1117 = .ok (.invokevirtual 127, 3) := by decide +kernel
theorem d_L_law_1120 : decode b_L_law 1120 = .ok (.lstore 6, 2) := by decide +kernel
theorem d_L_law_1122 : decode b_L_law 1122 = .ok (.aload_n 2, 1) := by decide +kernel
theorem d_L_law_1123 : decode b_L_law 1123 = .ok (.invokevirtual 76, 3) := by decide +kernel
theorem d_L_law_1126 : decode b_L_law 1126 = .ok (.iload 5, 2) := by decide +kernel
theorem d_L_law_1128 : decode b_L_law 1128 = .ok (.if_icmp .eq 5, 3) := by decide +kernel
theorem d_L_law_1131 : decode b_L_law 1131 = .ok (.iconst 0, 1) := by decide +kernel
theorem d_L_law_1132 : decode b_L_law 1132 = .ok (.ireturn, 1) := by decide +kernel
theorem d_L_law_1133 : decode b_L_law 1133 = .ok (.iload 5, 2) := by decide +kernel
theorem d_L_law_1135 : decode b_L_law 1135 = .ok (.ifCond .ne 14, 3) := by decide +kernel
theorem d_L_law_1138 : decode b_L_law 1138 = .ok (.aload_n 3, 1) := by decide +kernel
theorem d_L_law_1139 : decode b_L_law 1139 = .ok (.iconst 0, 1) := by decide +kernel
theorem d_L_law_1140 : decode b_L_law 1140 = .ok (.laload, 1) := by decide +kernel
theorem d_L_law_1141 : decode b_L_law 1141 = .ok (.lload 6, 2) := by decide +kernel
theorem d_L_law_1143 : decode b_L_law 1143 = .ok (.lcmp, 1) := by decide +kernel
theorem d_L_law_1144 : decode b_L_law 1144 = .ok (.ifCond .eq 5, 3) := by decide +kernel
theorem d_L_law_1147 : decode b_L_law 1147 = .ok (.iconst 0, 1) := by decide +kernel
theorem d_L_law_1148 : decode b_L_law 1148 = .ok (.ireturn, 1) := by decide +kernel
theorem d_L_law_1149 : decode b_L_law 1149 = .ok (.goto 3, 3) := by decide +kernel
theorem d_L_law_1152 : decode b_L_law 1152 = .ok (.iinc 4 6, 3) := by decide +kernel
theorem d_L_law_1155 : decode b_L_law 1155 = .ok (.goto (-1112), 3) := by decide +kernel
theorem d_L_law_1158 : decode b_L_law 1158 = .ok (.iconst 1, 1) := by decide +kernel
theorem d_L_law_1159 : decode b_L_law 1159 = .ok (.ireturn, 1) := by decide +kernel

